/-! ===== keep, again: both ===== -/
section
variable {V : gw_V} {n W N h0 L bc : Nat} {I : Nat → Nat → Int32} {J : Nat → Nat → Int64}
theorem c_put (s : Nat) (hs : s < 2) : gw_E V 29 (0, [(0, .ref 46), (1, .int (Int32.ofNat s)), (2, .ref 12)], [], gS n I J, 0, 0) (fun v w' => v = none ∧ ∃ I2, w' = gS n I2 J ∧ gz_mm I2 (49 + 2 * s) I 12 ∧ I2 48 s = 1 ∧ (∀ q, q ≠ s → I2 48 q = I 48 q) ∧ ∀ p, p ≠ 49 + 2 * s → p ≠ 49 + 2 * s + 1 → p ≠ 48 → I2 p = I p) := by
  refine gs_aload_n (pc := 0) (gd gk_29 0 rfl) rfl ?_
  refine gs_getR (r := 47) (pc := 1) (gd gk_29 1 rfl) rfl rfl rfl (by decide) ?_
  refine gs_iload_n (pc := 4) (gd gk_29 2 rfl) rfl ?_
  refine gs_aaloadK (r := 49 + 2 * s) (s) (2) (pc := 5) (gd gk_29 3 rfl) (Or.inl rfl) rfl (by decide) (by first | rfl | (simp only [Int32.ofNat_add, Int32.ofNat_mul]; rfl) | (simp only [Int32.ofNat_add, Int32.ofNat_mul])) (by omega) rfl (by omega) ?_
  refine gs_aload_n (pc := 6) (gd gk_29 4 rfl) rfl ?_
  refine gs_callV (as := [.ref (12)]) (pc := 7) (gd gk_29 5 rfl) (by decide) rfl (by decide) (gz_mo_s s hs n I J).1 rfl (Nat.le_of_ble_eq_true rfl) gq_29_15 (Nat.le_of_ble_eq_true rfl) (c_copy (49 + 2 * s) 12 (gz_mo_s s hs) gz_mo_12 (by omega) (by omega) (by omega)) (fun r_7 w_7 q_7 => ?_)
  obtain ⟨rfl, I_c, rfl, d2, d3, d4, d5, d6⟩ := q_7
  refine gs_aload_n (pc := 10) (gd gk_29 6 rfl) rfl ?_
  refine gs_getR (r := 48) (pc := 11) (gd gk_29 7 rfl) rfl rfl rfl (by decide) ?_
  refine gs_iload_n (pc := 14) (gd gk_29 8 rfl) rfl ?_
  refine gs_iconst (pc := 15) (gd gk_29 9 rfl) (1) rfl ?_
  refine gs_bastoreK (s) (2) gs_sl (pc := 16) (gd gk_29 10 rfl) rfl rfl (by decide) (by first | rfl | (simp only [Int32.ofNat_add, Int32.ofNat_mul]; rfl) | (simp only [Int32.ofNat_add, Int32.ofNat_mul])) (by omega) (fun I_1 hI_1 => ?_)
  -- end 1: return, pc 17, locals [(0, .ref (46)), (1, .int (Int32.ofNat s)), (2, .ref (12))]
  have o : ∀ p, p ≠ 48 → I_1 p = I_c p := fun p hp => by rw [hI_1, gw_u_o hp]
  exact gs_ret (pc := 17) (gd gk_29 11 rfl) rfl (Nat.zero_le _) (Nat.zero_le _) (⟨rfl, I_1, rfl, ⟨fun c hc => by rw [o _ (by omega)]; exact d2 c hc, by rw [o _ (by omega)]; exact d3, by rw [o _ (by omega)]; exact d4, by rw [o _ (by omega)]; exact d5⟩, by rw [hI_1, gw_u_s]; simp [upd]; rfl, fun q hq => by rw [hI_1, gw_u_s]; simp only [upd]; rw [if_neg hq, d6 48 (by omega) (by omega)], fun p q1 q2 q3 => by rw [o p q3]; exact d6 p q1 q2⟩)
theorem c_give (s : Nat) (hs : s < 2) (b : Bool) (hb : I 48 s = gz_b b) : gw_E V 30 (0, [(0, .ref 46), (1, .int (Int32.ofNat s)), (2, .ref 12)], [], gS n I J, 0, 0) (fun v w' => ∃ I2, w' = gS n I2 J ∧ v = some (.int (gz_b b)) ∧ (b = false → I2 = I) ∧ (b = true → gz_mm I2 12 I (49 + 2 * s) ∧ ∀ p, p ≠ 12 → p ≠ 13 → I2 p = I p)) := by
  refine gs_aload_n (pc := 0) (gd gk_30 0 rfl) rfl ?_
  refine gs_getR (r := 48) (pc := 1) (gd gk_30 1 rfl) rfl rfl rfl (by decide) ?_
  refine gs_iload_n (pc := 4) (gd gk_30 2 rfl) rfl ?_
  refine gs_baloadK (s) (2) (pc := 5) (gd gk_30 3 rfl) rfl rfl (by decide) (by first | rfl | (simp only [Int32.ofNat_add, Int32.ofNat_mul]; rfl) | (simp only [Int32.ofNat_add, Int32.ofNat_mul])) (by omega) ?_
  refine gs_as (gz_b b) (hb) ?_
  refine gs_if_eq (pc := 6) (gd gk_30 4 rfl) (fun c6 => ?_) (fun c6 => ?_)
  · refine gs_aload_n (pc := 19) (gd gk_30 11 rfl) rfl ?_
    refine gs_getR (r := 48) (pc := 20) (gd gk_30 12 rfl) rfl rfl rfl (by decide) ?_
    refine gs_iload_n (pc := 23) (gd gk_30 13 rfl) rfl ?_
    refine gs_baloadK (s) (2) (pc := 24) (gd gk_30 14 rfl) rfl rfl (by decide) (by first | rfl | (simp only [Int32.ofNat_add, Int32.ofNat_mul]; rfl) | (simp only [Int32.ofNat_add, Int32.ofNat_mul])) (by omega) ?_
    refine gs_as (gz_b b) (hb) ?_
    -- end 1: ireturn gz_b b, pc 25, locals [(0, .ref (46)), (1, .int (Int32.ofNat s)), (2, .ref (12))]
    have hb2 := gz_b_eq.mp c6
    exact gs_iret (pc := 25) (gd gk_30 15 rfl) rfl (gz_b_nar _) (Nat.zero_le _) (Nat.zero_le _) (⟨I, rfl, rfl, fun _ => rfl, fun e => by rw [hb2] at e; cases e⟩)
  · refine gs_aload_n (pc := 9) (gd gk_30 5 rfl) rfl ?_
    refine gs_aload_n (pc := 10) (gd gk_30 6 rfl) rfl ?_
    refine gs_getR (r := 47) (pc := 11) (gd gk_30 7 rfl) rfl rfl rfl (by decide) ?_
    refine gs_iload_n (pc := 14) (gd gk_30 8 rfl) rfl ?_
    refine gs_aaloadK (r := 49 + 2 * s) (s) (2) (pc := 15) (gd gk_30 9 rfl) (Or.inl rfl) rfl (by decide) (by first | rfl | (simp only [Int32.ofNat_add, Int32.ofNat_mul]; rfl) | (simp only [Int32.ofNat_add, Int32.ofNat_mul])) (by omega) rfl (by omega) ?_
    refine gs_callV (as := [.ref (49 + 2 * s)]) (pc := 16) (gd gk_30 10 rfl) (by decide) rfl (by decide) rfl rfl (Nat.le_of_ble_eq_true rfl) gq_30_15 (Nat.le_of_ble_eq_true rfl) (c_copy 12 (49 + 2 * s) gz_mo_12 (gz_mo_s s hs) (by omega) (by omega) (by omega)) (fun r_16 w_16 q_16 => ?_)
    obtain ⟨rfl, I_c, rfl, d2, d3, d4, d5, d6⟩ := q_16
    refine gs_aload_n (pc := 19) (gd gk_30 11 rfl) rfl ?_
    refine gs_getR (r := 48) (pc := 20) (gd gk_30 12 rfl) rfl rfl rfl (by decide) ?_
    refine gs_iload_n (pc := 23) (gd gk_30 13 rfl) rfl ?_
    refine gs_baloadK (s) (2) (pc := 24) (gd gk_30 14 rfl) rfl rfl (by decide) (by first | rfl | (simp only [Int32.ofNat_add, Int32.ofNat_mul]; rfl) | (simp only [Int32.ofNat_add, Int32.ofNat_mul])) (by omega) ?_
    refine gs_as (gz_b b) (by rw [d6 48 (by omega) (by omega)]; exact hb) ?_
    -- end 2: ireturn gz_b b, pc 25, locals [(0, .ref (46)), (1, .int (Int32.ofNat s)), (2, .ref (12))]
    have hb2 := gz_b_ne.mp c6
    exact gs_iret (pc := 25) (gd gk_30 15 rfl) rfl (gz_b_nar _) (Nat.zero_le _) (Nat.zero_le _) (⟨I_c, rfl, rfl, (fun e => by rw [hb2] at e; cases e), fun _ => ⟨⟨d2, d3, d4, d5⟩, d6⟩⟩)
theorem c_forgetA : gw_E V 1 (0, [(0, .ref 16)], [], gS n I J, 0, 0) (fun v w' => v = none ∧ ∃ I2, w' = gS n I2 J ∧ I2 = gw_u I 16 2 0) := by
  refine gs_aload_n (pc := 0) (gd gk_1 0 rfl) rfl ?_
  refine gs_iconst (pc := 1) (gd gk_1 1 rfl) (0) rfl ?_
  refine gs_putI (pc := 2) (gd gk_1 2 rfl) rfl rfl rfl rfl (fun I_1 hI_1 => ?_)
  -- end 1: return, pc 5, locals [(0, .ref (16))]
  exact gs_ret (pc := 5) (gd gk_1 3 rfl) rfl (Nat.zero_le _) (Nat.zero_le _) (⟨rfl, I_1, rfl, hI_1⟩)
theorem c_keep (x : Int32) : gw_E V 90 (0, [(0, .ref 3), (1, .int x)], [], gS n I J, 0, 0) (fun v w' => ∃ I2 y, w' = gS n I2 J ∧ v = some (.int y) ∧ if gz_lt x 2 then y = I 12 3 ∧ gz_mm I2 (49 + 2 * x.toNatClampNeg) I 12 ∧ I2 48 x.toNatClampNeg = 1 ∧ (∀ q, q ≠ x.toNatClampNeg → I2 48 q = I 48 q) ∧ (∀ p, p ≠ 49 + 2 * x.toNatClampNeg → p ≠ 49 + 2 * x.toNatClampNeg + 1 → p ≠ 48 → I2 p = I p) else y = -1 ∧ I2 = I) := by
  by_cases hr : gz_lt x 2 = true
  · obtain ⟨c, hc, rfl⟩ := gz_lt_nat hr (by omega)
    have hz : (Int32.ofNat c).toNatClampNeg = c := znn (by omega)
    refine gs_iload_n (pc := 0) (gd gk_90 0 rfl) rfl ?_
    refine gs_if_lt (pc := 1) (gd gk_90 1 rfl) (fun c1 => ?_) (fun c1 => ?_)
    · replace c1 : c < 0 := (zlt (k := c) (m := 0) (by omega) (by omega)).mp c1
      refine gs_iconst (pc := 9) (gd gk_90 5 rfl) (-1) rfl ?_
      -- end 1: ireturn (-1), pc 10, locals [(0, .ref (3)), (1, .int (Int32.ofNat c))]
      exact absurd c1 (Nat.not_lt_zero _)
    · replace c1 : ¬ (c < 0) := fun q9 => c1 ((zlt (k := c) (m := 0) (by omega) (by omega)).mpr q9)
      refine gs_iload_n (pc := 4) (gd gk_90 2 rfl) rfl ?_
      refine gs_iconst (pc := 5) (gd gk_90 3 rfl) (2) rfl ?_
      refine gs_icmp_lt (pc := 6) (gd gk_90 4 rfl) (fun c6 => ?_) (fun c6 => ?_)
      · replace c6 : c < 2 := (zlt (k := c) (m := 2) (by omega) (by omega)).mp c6
        refine gs_aload_n (pc := 11) (gd gk_90 7 rfl) rfl ?_
        refine gs_getR (r := 46) (pc := 12) (gd gk_90 8 rfl) rfl rfl rfl (by decide) ?_
        refine gs_iload_n (pc := 15) (gd gk_90 9 rfl) rfl ?_
        refine gs_aload_n (pc := 16) (gd gk_90 10 rfl) rfl ?_
        refine gs_getR (r := 12) (pc := 17) (gd gk_90 11 rfl) rfl rfl rfl (by decide) ?_
        refine gs_callV (as := [.int (Int32.ofNat c), .ref (12)]) (pc := 20) (gd gk_90 12 rfl) (by decide) rfl (by decide) rfl rfl (Nat.le_of_ble_eq_true rfl) gq_90_29 (Nat.le_of_ble_eq_true rfl) (c_put c hc) (fun r_20 w_20 q_20 => ?_)
        obtain ⟨rfl, I_p, rfl, p1, p2, p3, p4⟩ := q_20
        refine gs_aload_n (pc := 23) (gd gk_90 13 rfl) rfl ?_
        refine gs_getR (r := 12) (pc := 24) (gd gk_90 14 rfl) rfl rfl rfl (by decide) ?_
        refine gs_getI (pc := 27) (gd gk_90 15 rfl) rfl rfl ?_
        -- end 2: ireturn (I_p 12 3), pc 30, locals [(0, .ref (3)), (1, .int (Int32.ofNat c))]
        exact gs_iret (pc := 30) (gd gk_90 16 rfl) rfl (rfl) (Nat.zero_le _) (Nat.zero_le _) (⟨I_p, _, rfl, rfl, by rw [if_pos hr, hz]; exact ⟨by rw [p4 12 (by omega) (by omega) (by omega)], p1, p2, p3, p4⟩⟩)
      · replace c6 : ¬ (c < 2) := fun q9 => c6 ((zlt (k := c) (m := 2) (by omega) (by omega)).mpr q9)
        refine gs_iconst (pc := 9) (gd gk_90 5 rfl) (-1) rfl ?_
        -- end 3: ireturn (-1), pc 10, locals [(0, .ref (3)), (1, .int (Int32.ofNat c))]
        exact absurd hc c6
  · skip
    refine gs_iload_n (pc := 0) (gd gk_90 0 rfl) rfl ?_
    refine gs_if_lt (pc := 1) (gd gk_90 1 rfl) (fun c1 => ?_) (fun c1 => ?_)
    · refine gs_iconst (pc := 9) (gd gk_90 5 rfl) (-1) rfl ?_
      -- end 1: ireturn (-1), pc 10, locals [(0, .ref (3)), (1, .int (x))]
      exact gs_iret (pc := 10) (gd gk_90 6 rfl) rfl (rfl) (Nat.zero_le _) (Nat.zero_le _) (⟨I, -1, rfl, rfl, by rw [if_neg hr]; exact ⟨rfl, rfl⟩⟩)
    · refine gs_iload_n (pc := 4) (gd gk_90 2 rfl) rfl ?_
      refine gs_iconst (pc := 5) (gd gk_90 3 rfl) (2) rfl ?_
      refine gs_icmp_lt (pc := 6) (gd gk_90 4 rfl) (fun c6 => ?_) (fun c6 => ?_)
      · -- end 2: stop, pc 11, locals [(0, .ref (3)), (1, .int (x))]
        exact absurd (decide_eq_true ⟨Int32.not_lt.mp c1, c6⟩) hr
      · refine gs_iconst (pc := 9) (gd gk_90 5 rfl) (-1) rfl ?_
        -- end 3: ireturn (-1), pc 10, locals [(0, .ref (3)), (1, .int (x))]
        exact gs_iret (pc := 10) (gd gk_90 6 rfl) rfl (rfl) (Nat.zero_le _) (Nat.zero_le _) (⟨I, -1, rfl, rfl, by rw [if_neg hr]; exact ⟨rfl, rfl⟩⟩)
theorem c_again (x : Int32) (kb : Nat → Bool) (hk : ∀ s, s < 2 → I 48 s = gz_b (kb s)) : gw_E V 91 (0, [(0, .ref 3), (1, .int x)], [], gS n I J, 0, 0) (fun v w' => ∃ I2 y, w' = gS n I2 J ∧ v = some (.int y) ∧ if gz_lt x 2 then (if kb x.toNatClampNeg then y = I (49 + 2 * x.toNatClampNeg) 3 ∧ gz_mm I2 12 I (49 + 2 * x.toNatClampNeg) ∧ I2 16 2 = 0 ∧ I2 16 1 = I 16 1 ∧ (∀ p, p ≠ 12 → p ≠ 13 → p ≠ 16 → I2 p = I p) else y = -3 ∧ I2 = I) else y = -1 ∧ I2 = I) := by
  by_cases hr : gz_lt x 2 = true
  · obtain ⟨c, hc, rfl⟩ := gz_lt_nat hr (by omega)
    have hz : (Int32.ofNat c).toNatClampNeg = c := znn (by omega)
    refine gs_iload_n (pc := 0) (gd gk_91 0 rfl) rfl ?_
    refine gs_if_lt (pc := 1) (gd gk_91 1 rfl) (fun c1 => ?_) (fun c1 => ?_)
    · replace c1 : c < 0 := (zlt (k := c) (m := 0) (by omega) (by omega)).mp c1
      refine gs_iconst (pc := 9) (gd gk_91 5 rfl) (-1) rfl ?_
      -- end 1: ireturn (-1), pc 10, locals [(0, .ref (3)), (1, .int (Int32.ofNat c))]
      exact absurd c1 (Nat.not_lt_zero _)
    · replace c1 : ¬ (c < 0) := fun q9 => c1 ((zlt (k := c) (m := 0) (by omega) (by omega)).mpr q9)
      refine gs_iload_n (pc := 4) (gd gk_91 2 rfl) rfl ?_
      refine gs_iconst (pc := 5) (gd gk_91 3 rfl) (2) rfl ?_
      refine gs_icmp_lt (pc := 6) (gd gk_91 4 rfl) (fun c6 => ?_) (fun c6 => ?_)
      · replace c6 : c < 2 := (zlt (k := c) (m := 2) (by omega) (by omega)).mp c6
        refine gs_aload_n (pc := 11) (gd gk_91 7 rfl) rfl ?_
        refine gs_getR (r := 46) (pc := 12) (gd gk_91 8 rfl) rfl rfl rfl (by decide) ?_
        refine gs_iload_n (pc := 15) (gd gk_91 9 rfl) rfl ?_
        refine gs_aload_n (pc := 16) (gd gk_91 10 rfl) rfl ?_
        refine gs_getR (r := 12) (pc := 17) (gd gk_91 11 rfl) rfl rfl rfl (by decide) ?_
        refine gs_callV (as := [.int (Int32.ofNat c), .ref (12)]) (pc := 20) (gd gk_91 12 rfl) (by decide) rfl (by decide) rfl rfl (Nat.le_of_ble_eq_true rfl) gq_91_30 (Nat.le_of_ble_eq_true rfl) (c_give c hc (kb c) (hk c hc)) (fun r_20 w_20 q_20 => ?_)
        obtain ⟨I_p, rfl, rfl, p1, p2⟩ := q_20
        refine gs_if_ne (pc := 23) (gd gk_91 13 rfl) (fun c23 => ?_) (fun c23 => ?_)
        · refine gs_aload_n (pc := 29) (gd gk_91 16 rfl) rfl ?_
          refine gs_getR (r := 16) (pc := 30) (gd gk_91 17 rfl) rfl rfl rfl (by decide) ?_
          refine gs_callV (as := []) (pc := 33) (gd gk_91 18 rfl) (by decide) rfl (by decide) rfl rfl (Nat.le_of_ble_eq_true rfl) gq_91_1 (Nat.le_of_ble_eq_true rfl) (c_forgetA) (fun r_33 w_33 q_33 => ?_)
          obtain ⟨rfl, I_f, rfl, f1⟩ := q_33
          refine gs_aload_n (pc := 36) (gd gk_91 19 rfl) rfl ?_
          refine gs_getR (r := 12) (pc := 37) (gd gk_91 20 rfl) rfl rfl rfl (by decide) ?_
          refine gs_getI (pc := 40) (gd gk_91 21 rfl) rfl rfl ?_
          -- end 2: ireturn (I_f 12 3), pc 43, locals [(0, .ref (3)), (1, .int (Int32.ofNat c))]
          have hb := gz_b_ne.mp c23
          obtain ⟨m1, m2⟩ := p2 hb
          have o : ∀ p, p ≠ 16 → I_f p = I_p p := fun p hp => by rw [f1, gw_u_o hp]
          exact gs_iret (pc := 43) (gd gk_91 22 rfl) rfl (rfl) (Nat.zero_le _) (Nat.zero_le _) (⟨I_f, _, rfl, rfl, by
            rw [if_pos hr, hz, if_pos hb]
            exact ⟨by rw [o 12 (by omega)]; exact m1.2.2.2, ⟨fun c hc => by rw [o _ (by omega)]; exact m1.1 c hc, by rw [o _ (by omega)]; exact m1.2.1, by rw [o _ (by omega)]; exact m1.2.2.1, by rw [o _ (by omega)]; exact m1.2.2.2⟩, by rw [f1, gw_u_s]; simp [upd], by rw [f1, gw_u_s]; simp only [upd]; rw [if_neg (by omega), m2 16 (by omega) (by omega)], fun p q1 q2 q3 => by rw [o p q3]; exact m2 p q1 q2⟩⟩)
        · refine gs_bipush (pc := 26) (gd gk_91 14 rfl) (-3) rfl ?_
          -- end 3: ireturn (-3), pc 28, locals [(0, .ref (3)), (1, .int (Int32.ofNat c))]
          have hb := gz_b_eq.mp c23
          exact gs_iret (pc := 28) (gd gk_91 15 rfl) rfl (rfl) (Nat.zero_le _) (Nat.zero_le _) (⟨I_p, -3, rfl, rfl, by rw [if_pos hr, hz, if_neg (by rw [hb]; decide)]; exact ⟨rfl, p1 hb⟩⟩)
      · replace c6 : ¬ (c < 2) := fun q9 => c6 ((zlt (k := c) (m := 2) (by omega) (by omega)).mpr q9)
        refine gs_iconst (pc := 9) (gd gk_91 5 rfl) (-1) rfl ?_
        -- end 4: ireturn (-1), pc 10, locals [(0, .ref (3)), (1, .int (Int32.ofNat c))]
        exact absurd hc c6
  · skip
    refine gs_iload_n (pc := 0) (gd gk_91 0 rfl) rfl ?_
    refine gs_if_lt (pc := 1) (gd gk_91 1 rfl) (fun c1 => ?_) (fun c1 => ?_)
    · refine gs_iconst (pc := 9) (gd gk_91 5 rfl) (-1) rfl ?_
      -- end 1: ireturn (-1), pc 10, locals [(0, .ref (3)), (1, .int (x))]
      exact gs_iret (pc := 10) (gd gk_91 6 rfl) rfl (rfl) (Nat.zero_le _) (Nat.zero_le _) (⟨I, -1, rfl, rfl, by rw [if_neg hr]; exact ⟨rfl, rfl⟩⟩)
    · refine gs_iload_n (pc := 4) (gd gk_91 2 rfl) rfl ?_
      refine gs_iconst (pc := 5) (gd gk_91 3 rfl) (2) rfl ?_
      refine gs_icmp_lt (pc := 6) (gd gk_91 4 rfl) (fun c6 => ?_) (fun c6 => ?_)
      · -- end 2: stop, pc 11, locals [(0, .ref (3)), (1, .int (x))]
        exact absurd (decide_eq_true ⟨Int32.not_lt.mp c1, c6⟩) hr
      · refine gs_iconst (pc := 9) (gd gk_91 5 rfl) (-1) rfl ?_
        -- end 3: ireturn (-1), pc 10, locals [(0, .ref (3)), (1, .int (x))]
        exact gs_iret (pc := 10) (gd gk_91 6 rfl) rfl (rfl) (Nat.zero_le _) (Nat.zero_le _) (⟨I, -1, rfl, rfl, by rw [if_neg hr]; exact ⟨rfl, rfl⟩⟩)
theorem m_keep (x : Int32) : gw_E V 160 (0, [(0, .ref 126), (1, .int x)], [], gS n I J, 0, 0) (fun v w' => ∃ I2 y, w' = gS n I2 J ∧ v = some (.int y) ∧ if gz_lt x 2 then y = I 133 12 ∧ (∀ c, c < 13 → I2 144 (13 * x.toNatClampNeg + c) = I 133 c) ∧ (∀ q, ¬ (13 * x.toNatClampNeg ≤ q ∧ q < 13 * x.toNatClampNeg + 13) → I2 144 q = I 144 q) ∧ I2 143 x.toNatClampNeg = 1 ∧ (∀ q, q ≠ x.toNatClampNeg → I2 143 q = I 143 q) ∧ (∀ p, p ≠ 143 → p ≠ 144 → I2 p = I p) else y = -1 ∧ I2 = I) := by
  by_cases hr : gz_lt x 2 = true
  · obtain ⟨s, hs, rfl⟩ := gz_lt_nat hr (by omega)
    have hz : (Int32.ofNat s).toNatClampNeg = s := znn (by omega)
    simp only [if_pos hr, hz]
    have lp : ∀ (m k : Nat), m + k = 13 → ∀ I1, (∀ c, c < k → I1 144 (13 * s + c) = I 133 c) → (∀ q, ¬ (13 * s ≤ q ∧ q < 13 * s + 13) → I1 144 q = I 144 q) → I1 143 s = 1 → (∀ q, q ≠ s → I1 143 q = I 143 q) → (∀ p, p ≠ 143 → p ≠ 144 → I1 p = I p) → gw_E V 160 (21, [(0, .ref 126), (1, .int (Int32.ofNat s)), (2, .int (Int32.ofNat k))], [], gS n I1 J, 0, 0) (fun v w' => ∃ I2 y, w' = gS n I2 J ∧ v = some (.int y) ∧ y = I 133 12 ∧ (∀ c, c < 13 → I2 144 (13 * s + c) = I 133 c) ∧ (∀ q, ¬ (13 * s ≤ q ∧ q < 13 * s + 13) → I2 144 q = I 144 q) ∧ I2 143 s = 1 ∧ (∀ q, q ≠ s → I2 143 q = I 143 q) ∧ (∀ p, p ≠ 143 → p ≠ 144 → I2 p = I p)) := by
      intro m
      induction m with
      | zero =>
        intro k hk I1 g1 g2 g3 g4 g5
        obtain rfl : k = 13 := by omega
        refine gs_iload_n (pc := 21) (gd gk_160 15 rfl) rfl ?_
        refine gs_bipush (pc := 22) (gd gk_160 16 rfl) (13) rfl ?_
        refine gs_icmp_ge (pc := 24) (gd gk_160 17 rfl) (fun c24 => ?_) (fun c24 => ?_)
        · replace c24 : 13 ≤ 13 := (zle (k := 13) (m := 13) (by omega) (by omega)).mp c24
          refine gs_aload_n (pc := 50) (gd gk_160 32 rfl) rfl ?_
          refine gs_getR (r := 133) (pc := 51) (gd gk_160 33 rfl) rfl rfl rfl (by decide) ?_
          refine gs_bipush (pc := 54) (gd gk_160 34 rfl) (12) rfl ?_
          refine gs_ialoadK (12) (52) (pc := 56) (gd gk_160 35 rfl) (Or.inl rfl) rfl (by decide) (by first | rfl | (simp only [Int32.ofNat_add, Int32.ofNat_mul]; rfl) | (simp only [Int32.ofNat_add, Int32.ofNat_mul])) (by omega) ?_
          -- end 1: ireturn (I1 133 12), pc 57, locals [(0, .ref (126)), (1, .int (Int32.ofNat s)), (2, .int (Int32.ofNat 13))]
          exact gs_iret (pc := 57) (gd gk_160 36 rfl) rfl (rfl) (Nat.zero_le _) (Nat.zero_le _) (⟨I1, _, rfl, rfl, by rw [g5 133 (by omega) (by omega)], g1, g2, g3, g4, g5⟩)
        · replace c24 : ¬ (13 ≤ 13) := fun q9 => c24 ((zle (k := 13) (m := 13) (by omega) (by omega)).mpr q9)
          -- end 2: stop, pc 27, locals [(0, .ref (126)), (1, .int (Int32.ofNat s)), (2, .int (Int32.ofNat 13))]
          exact absurd (by decide) c24
      | succ m ih =>
        intro k hk I1 g1 g2 g3 g4 g5
        refine gs_iload_n (pc := 21) (gd gk_160 15 rfl) rfl ?_
        refine gs_bipush (pc := 22) (gd gk_160 16 rfl) (13) rfl ?_
        refine gs_icmp_ge (pc := 24) (gd gk_160 17 rfl) (fun c24 => ?_) (fun c24 => ?_)
        · replace c24 : 13 ≤ k := (zle (k := 13) (m := k) (by omega) (by omega)).mp c24
          refine gs_aload_n (pc := 50) (gd gk_160 32 rfl) rfl ?_
          refine gs_getR (r := 133) (pc := 51) (gd gk_160 33 rfl) rfl rfl rfl (by decide) ?_
          refine gs_bipush (pc := 54) (gd gk_160 34 rfl) (12) rfl ?_
          refine gs_ialoadK (12) (52) (pc := 56) (gd gk_160 35 rfl) (Or.inl rfl) rfl (by decide) (by first | rfl | (simp only [Int32.ofNat_add, Int32.ofNat_mul]; rfl) | (simp only [Int32.ofNat_add, Int32.ofNat_mul])) (by omega) ?_
          -- end 1: ireturn (I1 133 12), pc 57, locals [(0, .ref (126)), (1, .int (Int32.ofNat s)), (2, .int (Int32.ofNat k))]
          exact absurd c24 (by omega)
        · replace c24 : ¬ (13 ≤ k) := fun q9 => c24 ((zle (k := 13) (m := k) (by omega) (by omega)).mpr q9)
          refine gs_aload_n (pc := 27) (gd gk_160 18 rfl) rfl ?_
          refine gs_getR (r := 144) (pc := 28) (gd gk_160 19 rfl) rfl rfl rfl (by decide) ?_
          refine gs_bipush (pc := 31) (gd gk_160 20 rfl) (13) rfl ?_
          refine gs_iload_n (pc := 33) (gd gk_160 21 rfl) rfl ?_
          refine gs_imul (pc := 34) (gd gk_160 22 rfl) ?_
          refine gs_iload_n (pc := 35) (gd gk_160 23 rfl) rfl ?_
          refine gs_iadd (pc := 36) (gd gk_160 24 rfl) ?_
          refine gs_aload_n (pc := 37) (gd gk_160 25 rfl) rfl ?_
          refine gs_getR (r := 133) (pc := 38) (gd gk_160 26 rfl) rfl rfl rfl (by decide) ?_
          refine gs_iload_n (pc := 41) (gd gk_160 27 rfl) rfl ?_
          refine gs_ialoadK (k) (52) (pc := 42) (gd gk_160 28 rfl) (Or.inl rfl) rfl (by decide) (by first | rfl | (simp only [Int32.ofNat_add, Int32.ofNat_mul]; rfl) | (simp only [Int32.ofNat_add, Int32.ofNat_mul])) (by omega) ?_
          refine gs_iastoreK (((13 * s) + k)) (26) gs_sl (pc := 43) (gd gk_160 29 rfl) rfl rfl (by decide) (by first | rfl | (simp only [Int32.ofNat_add, Int32.ofNat_mul]; rfl) | (simp only [Int32.ofNat_add, Int32.ofNat_mul])) (by omega) (fun I_1 hI_1 => ?_)
          refine gs_iinc (ls2 := fun v => [(0, .ref (126)), (1, .int (Int32.ofNat s)), (2, .int (v))]) (pc := 44) (gd gk_160 30 rfl) rfl (by rw [gL_160]; decide) (fun _ => rfl) (1) rfl (fun v2_1 hv2_1 => ?_)
          obtain rfl : v2_1 = Int32.ofNat (k + 1) := hv2_1.trans (by first | rfl | (simp only [Int32.ofNat_add, Int32.ofNat_mul]; rfl) | (simp only [Int32.ofNat_add, Int32.ofNat_mul]))
          refine gs_goto (pc := 47) (gd gk_160 31 rfl) ?_
          -- end 2: stop, pc 21, locals [(0, .ref (126)), (1, .int (Int32.ofNat s)), (2, .int (Int32.ofNat (k + 1)))]
          refine ih (k + 1) (by omega) I_1 (fun c hc => ?_) (fun q hq => ?_) ?_ (fun q q1 => ?_) (fun p q1 q2 => ?_)
          · rw [hI_1, gw_u_s]
            simp only [upd]
            by_cases e : c = k
            · subst e; rw [if_pos rfl, g5 133 (by omega) (by omega)]
            · rw [if_neg (by omega)]; exact g1 c (by omega)
          · rw [hI_1, gw_u_s]; simp only [upd]; rw [if_neg (by omega)]; exact g2 q hq
          · rw [hI_1, gw_u_o (by omega)]; exact g3
          · rw [hI_1, gw_u_o (by omega)]; exact g4 q q1
          · rw [hI_1, gw_u_o q2]; exact g5 p q1 q2
    refine gs_iload_n (pc := 0) (gd gk_160 0 rfl) rfl ?_
    refine gs_i2l (pc := 1) (gd gk_160 1 rfl) ?_
    refine gs_lconst (pc := 2) (gd gk_160 2 rfl) (0) rfl ?_
    refine gs_lconst (pc := 3) (gd gk_160 3 rfl) (1) rfl ?_
    refine gs_callS (as := [.long ((Int32.ofNat s : Int32).toInt64), .long (0), .long (1)]) (pc := 4) (gd gk_160 4 rfl) (by decide) rfl rfl (Nat.le_of_ble_eq_true rfl) gq_160_107 (Nat.le_of_ble_eq_true rfl) (c_mrg (Int32.ofNat s) (0) (1)) (fun r_4 w_4 q_4 => ?_)
    obtain ⟨rfl, rfl⟩ := q_4
    refine gs_if_ne (pc := 7) (gd gk_160 5 rfl) (fun c7 => ?_) (fun c7 => ?_)
    · refine gs_aload_n (pc := 12) (gd gk_160 8 rfl) rfl ?_
      refine gs_getR (r := 143) (pc := 13) (gd gk_160 9 rfl) rfl rfl rfl (by decide) ?_
      refine gs_iload_n (pc := 16) (gd gk_160 10 rfl) rfl ?_
      refine gs_iconst (pc := 17) (gd gk_160 11 rfl) (1) rfl ?_
      refine gs_bastoreK (s) (2) gs_sl (pc := 18) (gd gk_160 12 rfl) rfl rfl (by decide) (by first | rfl | (simp only [Int32.ofNat_add, Int32.ofNat_mul]; rfl) | (simp only [Int32.ofNat_add, Int32.ofNat_mul])) (by omega) (fun I_1 hI_1 => ?_)
      refine gs_iconst (pc := 19) (gd gk_160 13 rfl) (0) rfl ?_
      refine gs_istore_n (ls2 := fun v => [(0, .ref (126)), (1, .int (Int32.ofNat s)), (2, .int (v))]) (pc := 20) (gd gk_160 14 rfl) (by rw [gL_160]; decide) (fun _ => rfl) (fun v2_1 hv2_1 => ?_)
      obtain rfl : v2_1 = Int32.ofNat 0 := hv2_1.trans (by first | rfl | (simp only [Int32.ofNat_add, Int32.ofNat_mul]; rfl) | (simp only [Int32.ofNat_add, Int32.ofNat_mul]))
      -- end 1: stop, pc 21, locals [(0, .ref (126)), (1, .int (Int32.ofNat s)), (2, .int (Int32.ofNat 0))]
      exact lp 13 0 rfl I_1 (fun c hc => absurd hc (Nat.not_lt_zero _)) (fun q _ => by rw [hI_1, gw_u_o (by omega)]) (by rw [hI_1, gw_u_s]; simp [upd]; rfl) (fun q hq => by rw [hI_1, gw_u_s]; simp only [upd]; rw [if_neg hq]) (fun p q1 _ => by rw [hI_1, gw_u_o q1])
    · refine gs_iconst (pc := 10) (gd gk_160 6 rfl) (-1) rfl ?_
      -- end 2: ireturn (-1), pc 11, locals [(0, .ref (126)), (1, .int (Int32.ofNat s))]
      exact absurd (gz_b_eq.mp c7) (by rw [show gz_rg (Int32.ofNat s) 0 1 = gz_lt (Int32.ofNat s) 2 from gz_rg_lt _ 2 (by omega), hr]; decide)
  · skip
    refine gs_iload_n (pc := 0) (gd gk_160 0 rfl) rfl ?_
    refine gs_i2l (pc := 1) (gd gk_160 1 rfl) ?_
    refine gs_lconst (pc := 2) (gd gk_160 2 rfl) (0) rfl ?_
    refine gs_lconst (pc := 3) (gd gk_160 3 rfl) (1) rfl ?_
    refine gs_callS (as := [.long ((x : Int32).toInt64), .long (0), .long (1)]) (pc := 4) (gd gk_160 4 rfl) (by decide) rfl rfl (Nat.le_of_ble_eq_true rfl) gq_160_107 (Nat.le_of_ble_eq_true rfl) (c_mrg (x) (0) (1)) (fun r_4 w_4 q_4 => ?_)
    obtain ⟨rfl, rfl⟩ := q_4
    refine gs_if_ne (pc := 7) (gd gk_160 5 rfl) (fun c7 => ?_) (fun c7 => ?_)
    · -- end 1: stop, pc 12, locals [(0, .ref (126)), (1, .int (x))]
      exact absurd (gz_b_ne.mp c7) (by rw [show gz_rg x 0 1 = gz_lt x 2 from gz_rg_lt _ 2 (by omega)]; exact hr)
    · refine gs_iconst (pc := 10) (gd gk_160 6 rfl) (-1) rfl ?_
      -- end 2: ireturn (-1), pc 11, locals [(0, .ref (126)), (1, .int (x))]
      exact gs_iret (pc := 11) (gd gk_160 7 rfl) rfl (rfl) (Nat.zero_le _) (Nat.zero_le _) (⟨I, -1, rfl, rfl, by rw [if_neg hr]; exact ⟨rfl, rfl⟩⟩)
theorem m_again (x : Int32) (kb : Nat → Bool) (hk : ∀ s, s < 2 → I 143 s = gz_b (kb s)) : gw_E V 161 (0, [(0, .ref 126), (1, .int x)], [], gS n I J, 0, 0) (fun v w' => ∃ I2 y, w' = gS n I2 J ∧ v = some (.int y) ∧ if gz_lt x 2 then (if kb x.toNatClampNeg then y = I 144 (13 * x.toNatClampNeg + 12) ∧ (∀ c, c < 13 → I2 133 c = I 144 (13 * x.toNatClampNeg + c)) ∧ (∀ q, 13 ≤ q → I2 133 q = I 133 q) ∧ I2 126 19 = 0 ∧ (∀ q, q ≠ 19 → I2 126 q = I 126 q) ∧ (∀ p, p ≠ 126 → p ≠ 133 → I2 p = I p) else y = -3 ∧ I2 = I) else y = -1 ∧ I2 = I) := by
  by_cases hr : gz_lt x 2 = true
  · obtain ⟨s, hs, rfl⟩ := gz_lt_nat hr (by omega)
    have hz : (Int32.ofNat s).toNatClampNeg = s := znn (by omega)
    have e143 := hk s hs
    simp only [if_pos hr, hz]
    have lp : kb s = true → ∀ (m k : Nat), m + k = 13 → ∀ I1, (∀ c, c < k → I1 133 c = I 144 (13 * s + c)) → (∀ q, 13 ≤ q → I1 133 q = I 133 q) → (∀ p, p ≠ 133 → I1 p = I p) → gw_E V 161 (26, [(0, .ref 126), (1, .int (Int32.ofNat s)), (2, .int (Int32.ofNat k))], [], gS n I1 J, 0, 0) (fun v w' => ∃ I2 y, w' = gS n I2 J ∧ v = some (.int y) ∧ (if kb s then y = I 144 (13 * s + 12) ∧ (∀ c, c < 13 → I2 133 c = I 144 (13 * s + c)) ∧ (∀ q, 13 ≤ q → I2 133 q = I 133 q) ∧ I2 126 19 = 0 ∧ (∀ q, q ≠ 19 → I2 126 q = I 126 q) ∧ (∀ p, p ≠ 126 → p ≠ 133 → I2 p = I p) else y = -3 ∧ I2 = I)) := by
      intro hkb m
      induction m with
      | zero =>
        intro k hk I1 g1 g2 g3
        obtain rfl : k = 13 := by omega
        refine gs_iload_n (pc := 26) (gd gk_161 17 rfl) rfl ?_
        refine gs_bipush (pc := 27) (gd gk_161 18 rfl) (13) rfl ?_
        refine gs_icmp_ge (pc := 29) (gd gk_161 19 rfl) (fun c29 => ?_) (fun c29 => ?_)
        · replace c29 : 13 ≤ 13 := (zle (k := 13) (m := 13) (by omega) (by omega)).mp c29
          refine gs_aload_n (pc := 55) (gd gk_161 34 rfl) rfl ?_
          refine gs_iconst (pc := 56) (gd gk_161 35 rfl) (0) rfl ?_
          refine gs_putI (pc := 57) (gd gk_161 36 rfl) rfl rfl rfl rfl (fun I_1 hI_1 => ?_)
          refine gs_aload_n (pc := 60) (gd gk_161 37 rfl) rfl ?_
          refine gs_getR (r := 133) (pc := 61) (gd gk_161 38 rfl) rfl rfl rfl (by decide) ?_
          refine gs_bipush (pc := 64) (gd gk_161 39 rfl) (12) rfl ?_
          refine gs_ialoadK (12) (52) (pc := 66) (gd gk_161 40 rfl) (Or.inl rfl) rfl (by decide) (by first | rfl | (simp only [Int32.ofNat_add, Int32.ofNat_mul]; rfl) | (simp only [Int32.ofNat_add, Int32.ofNat_mul])) (by omega) ?_
          -- end 1: ireturn (I_1 133 12), pc 67, locals [(0, .ref (126)), (1, .int (Int32.ofNat s)), (2, .int (Int32.ofNat 13))]
          exact gs_iret (pc := 67) (gd gk_161 41 rfl) rfl (rfl) (Nat.zero_le _) (Nat.zero_le _) (⟨I_1, _, rfl, rfl, by
            rw [if_pos hkb]
            have o : ∀ p, p ≠ 126 → I_1 p = I1 p := fun p hp => by rw [hI_1, gw_u_o hp]
            exact ⟨by rw [o 133 (by omega)]; exact g1 12 (by omega), by rw [o 133 (by omega)]; exact g1, by rw [o 133 (by omega)]; exact g2, by rw [hI_1, gw_u_s]; simp [upd], fun q hq => by rw [hI_1, gw_u_s]; simp only [upd]; rw [if_neg hq, g3 126 (by omega)], fun p q1 q2 => by rw [o p q1]; exact g3 p q2⟩⟩)
        · replace c29 : ¬ (13 ≤ 13) := fun q9 => c29 ((zle (k := 13) (m := 13) (by omega) (by omega)).mpr q9)
          -- end 2: stop, pc 32, locals [(0, .ref (126)), (1, .int (Int32.ofNat s)), (2, .int (Int32.ofNat 13))]
          exact absurd (by decide) c29
      | succ m ih =>
        intro k hk I1 g1 g2 g3
        refine gs_iload_n (pc := 26) (gd gk_161 17 rfl) rfl ?_
        refine gs_bipush (pc := 27) (gd gk_161 18 rfl) (13) rfl ?_
        refine gs_icmp_ge (pc := 29) (gd gk_161 19 rfl) (fun c29 => ?_) (fun c29 => ?_)
        · replace c29 : 13 ≤ k := (zle (k := 13) (m := k) (by omega) (by omega)).mp c29
          refine gs_aload_n (pc := 55) (gd gk_161 34 rfl) rfl ?_
          refine gs_iconst (pc := 56) (gd gk_161 35 rfl) (0) rfl ?_
          refine gs_putI (pc := 57) (gd gk_161 36 rfl) rfl rfl rfl rfl (fun I_1 hI_1 => ?_)
          refine gs_aload_n (pc := 60) (gd gk_161 37 rfl) rfl ?_
          refine gs_getR (r := 133) (pc := 61) (gd gk_161 38 rfl) rfl rfl rfl (by decide) ?_
          refine gs_bipush (pc := 64) (gd gk_161 39 rfl) (12) rfl ?_
          refine gs_ialoadK (12) (52) (pc := 66) (gd gk_161 40 rfl) (Or.inl rfl) rfl (by decide) (by first | rfl | (simp only [Int32.ofNat_add, Int32.ofNat_mul]; rfl) | (simp only [Int32.ofNat_add, Int32.ofNat_mul])) (by omega) ?_
          -- end 1: ireturn (I_1 133 12), pc 67, locals [(0, .ref (126)), (1, .int (Int32.ofNat s)), (2, .int (Int32.ofNat k))]
          exact absurd c29 (by omega)
        · replace c29 : ¬ (13 ≤ k) := fun q9 => c29 ((zle (k := 13) (m := k) (by omega) (by omega)).mpr q9)
          refine gs_aload_n (pc := 32) (gd gk_161 20 rfl) rfl ?_
          refine gs_getR (r := 133) (pc := 33) (gd gk_161 21 rfl) rfl rfl rfl (by decide) ?_
          refine gs_iload_n (pc := 36) (gd gk_161 22 rfl) rfl ?_
          refine gs_aload_n (pc := 37) (gd gk_161 23 rfl) rfl ?_
          refine gs_getR (r := 144) (pc := 38) (gd gk_161 24 rfl) rfl rfl rfl (by decide) ?_
          refine gs_bipush (pc := 41) (gd gk_161 25 rfl) (13) rfl ?_
          refine gs_iload_n (pc := 43) (gd gk_161 26 rfl) rfl ?_
          refine gs_imul (pc := 44) (gd gk_161 27 rfl) ?_
          refine gs_iload_n (pc := 45) (gd gk_161 28 rfl) rfl ?_
          refine gs_iadd (pc := 46) (gd gk_161 29 rfl) ?_
          refine gs_ialoadK (((13 * s) + k)) (26) (pc := 47) (gd gk_161 30 rfl) (Or.inl rfl) rfl (by decide) (by first | rfl | (simp only [Int32.ofNat_add, Int32.ofNat_mul]; rfl) | (simp only [Int32.ofNat_add, Int32.ofNat_mul])) (by omega) ?_
          refine gs_iastoreK (k) (52) gs_sl (pc := 48) (gd gk_161 31 rfl) rfl rfl (by decide) (by first | rfl | (simp only [Int32.ofNat_add, Int32.ofNat_mul]; rfl) | (simp only [Int32.ofNat_add, Int32.ofNat_mul])) (by omega) (fun I_2 hI_2 => ?_)
          refine gs_iinc (ls2 := fun v => [(0, .ref (126)), (1, .int (Int32.ofNat s)), (2, .int (v))]) (pc := 49) (gd gk_161 32 rfl) rfl (by rw [gL_161]; decide) (fun _ => rfl) (1) rfl (fun v2_1 hv2_1 => ?_)
          obtain rfl : v2_1 = Int32.ofNat (k + 1) := hv2_1.trans (by first | rfl | (simp only [Int32.ofNat_add, Int32.ofNat_mul]; rfl) | (simp only [Int32.ofNat_add, Int32.ofNat_mul]))
          refine gs_goto (pc := 52) (gd gk_161 33 rfl) ?_
          -- end 2: stop, pc 26, locals [(0, .ref (126)), (1, .int (Int32.ofNat s)), (2, .int (Int32.ofNat (k + 1)))]
          refine ih (k + 1) (by omega) I_2 (fun c hc => ?_) (fun q hq => ?_) (fun p q1 => ?_)
          · rw [hI_2, gw_u_s]
            simp only [upd]
            by_cases e : c = k
            · subst e; rw [if_pos rfl, g3 144 (by omega)]
            · rw [if_neg e]; exact g1 c (by omega)
          · rw [hI_2, gw_u_s]; simp only [upd]; rw [if_neg (by omega)]; exact g2 q hq
          · rw [hI_2, gw_u_o q1]; exact g3 p q1
    refine gs_iload_n (pc := 0) (gd gk_161 0 rfl) rfl ?_
    refine gs_i2l (pc := 1) (gd gk_161 1 rfl) ?_
    refine gs_lconst (pc := 2) (gd gk_161 2 rfl) (0) rfl ?_
    refine gs_lconst (pc := 3) (gd gk_161 3 rfl) (1) rfl ?_
    refine gs_callS (as := [.long ((Int32.ofNat s : Int32).toInt64), .long (0), .long (1)]) (pc := 4) (gd gk_161 4 rfl) (by decide) rfl rfl (Nat.le_of_ble_eq_true rfl) gq_161_107 (Nat.le_of_ble_eq_true rfl) (c_mrg (Int32.ofNat s) (0) (1)) (fun r_4 w_4 q_4 => ?_)
    obtain ⟨rfl, rfl⟩ := q_4
    refine gs_if_ne (pc := 7) (gd gk_161 5 rfl) (fun c7 => ?_) (fun c7 => ?_)
    · refine gs_aload_n (pc := 12) (gd gk_161 8 rfl) rfl ?_
      refine gs_getR (r := 143) (pc := 13) (gd gk_161 9 rfl) rfl rfl rfl (by decide) ?_
      refine gs_iload_n (pc := 16) (gd gk_161 10 rfl) rfl ?_
      refine gs_baloadK (s) (2) (pc := 17) (gd gk_161 11 rfl) rfl rfl (by decide) (by first | rfl | (simp only [Int32.ofNat_add, Int32.ofNat_mul]; rfl) | (simp only [Int32.ofNat_add, Int32.ofNat_mul])) (by omega) ?_
      refine gs_as (gz_b (kb s)) (e143) ?_
      refine gs_if_ne (pc := 18) (gd gk_161 12 rfl) (fun c18 => ?_) (fun c18 => ?_)
      · refine gs_iconst (pc := 24) (gd gk_161 15 rfl) (0) rfl ?_
        refine gs_istore_n (ls2 := fun v => [(0, .ref (126)), (1, .int (Int32.ofNat s)), (2, .int (v))]) (pc := 25) (gd gk_161 16 rfl) (by rw [gL_161]; decide) (fun _ => rfl) (fun v2_1 hv2_1 => ?_)
        obtain rfl : v2_1 = Int32.ofNat 0 := hv2_1.trans (by first | rfl | (simp only [Int32.ofNat_add, Int32.ofNat_mul]; rfl) | (simp only [Int32.ofNat_add, Int32.ofNat_mul]))
        -- end 1: stop, pc 26, locals [(0, .ref (126)), (1, .int (Int32.ofNat s)), (2, .int (Int32.ofNat 0))]
        exact lp (gz_b_ne.mp c18) 13 0 rfl I (fun c hc => absurd hc (Nat.not_lt_zero _)) (fun q _ => rfl) (fun p _ => rfl)
      · refine gs_bipush (pc := 21) (gd gk_161 13 rfl) (-3) rfl ?_
        -- end 2: ireturn (-3), pc 23, locals [(0, .ref (126)), (1, .int (Int32.ofNat s))]
        exact gs_iret (pc := 23) (gd gk_161 14 rfl) rfl (rfl) (Nat.zero_le _) (Nat.zero_le _) (⟨I, -3, rfl, rfl, by rw [if_neg (by rw [gz_b_eq.mp c18]; decide)]; exact ⟨rfl, rfl⟩⟩)
    · refine gs_iconst (pc := 10) (gd gk_161 6 rfl) (-1) rfl ?_
      -- end 3: ireturn (-1), pc 11, locals [(0, .ref (126)), (1, .int (Int32.ofNat s))]
      exact absurd (gz_b_eq.mp c7) (by rw [show gz_rg (Int32.ofNat s) 0 1 = gz_lt (Int32.ofNat s) 2 from gz_rg_lt _ 2 (by omega), hr]; decide)
  · skip
    refine gs_iload_n (pc := 0) (gd gk_161 0 rfl) rfl ?_
    refine gs_i2l (pc := 1) (gd gk_161 1 rfl) ?_
    refine gs_lconst (pc := 2) (gd gk_161 2 rfl) (0) rfl ?_
    refine gs_lconst (pc := 3) (gd gk_161 3 rfl) (1) rfl ?_
    refine gs_callS (as := [.long ((x : Int32).toInt64), .long (0), .long (1)]) (pc := 4) (gd gk_161 4 rfl) (by decide) rfl rfl (Nat.le_of_ble_eq_true rfl) gq_161_107 (Nat.le_of_ble_eq_true rfl) (c_mrg (x) (0) (1)) (fun r_4 w_4 q_4 => ?_)
    obtain ⟨rfl, rfl⟩ := q_4
    refine gs_if_ne (pc := 7) (gd gk_161 5 rfl) (fun c7 => ?_) (fun c7 => ?_)
    · -- end 1: stop, pc 12, locals [(0, .ref (126)), (1, .int (x))]
      exact absurd (gz_b_ne.mp c7) (by rw [show gz_rg x 0 1 = gz_lt x 2 from gz_rg_lt _ 2 (by omega)]; exact hr)
    · refine gs_iconst (pc := 10) (gd gk_161 6 rfl) (-1) rfl ?_
      -- end 2: ireturn (-1), pc 11, locals [(0, .ref (126)), (1, .int (x))]
      exact gs_iret (pc := 11) (gd gk_161 7 rfl) rfl (rfl) (Nat.zero_le _) (Nat.zero_le _) (⟨I, -1, rfl, rfl, by rw [if_neg hr]; exact ⟨rfl, rfl⟩⟩)
end
