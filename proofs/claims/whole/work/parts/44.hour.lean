/-! ===== hour: both ===== -/
section
variable {V : gw_V} {n W N h0 L bc : Nat} {I : Nat → Nat → Int32} {J : Nat → Nat → Int64}
theorem c_lead : gw_E V 62 (0, [(0, .ref 57), (1, .ref 12)], [], gS n I J, 0, 0) (fun v w' => v = none ∧ ∃ I2, w' = gS n I2 J ∧ (∀ c, c < 10 → I2 13 c = I 60 c) ∧ I2 12 1 = I 12 1 ∧ I2 12 2 = I 12 2 + I 78 1 ∧ I2 12 3 = I 12 3 + 1 ∧ ∀ p, p ≠ 12 → p ≠ 13 → I2 p = I p) := by
  refine gs_aload_n (pc := 0) (gd gk_62 0 rfl) rfl ?_
  refine gs_getR (r := 58) (pc := 1) (gd gk_62 1 rfl) rfl rfl rfl (by decide) ?_
  refine gs_iconst (pc := 4) (gd gk_62 2 rfl) (1) rfl ?_
  refine gs_aaloadK (r := 60) (1) (9) (pc := 5) (gd gk_62 3 rfl) (Or.inr rfl) rfl (by decide) (by first | rfl | (simp only [Int32.ofNat_add, Int32.ofNat_mul]; rfl) | (simp only [Int32.ofNat_add, Int32.ofNat_mul])) (by omega) rfl (by omega) ?_
  refine gs_iconst (pc := 6) (gd gk_62 4 rfl) (0) rfl ?_
  refine gs_aload_n (pc := 7) (gd gk_62 5 rfl) rfl ?_
  refine gs_getR (r := 13) (pc := 8) (gd gk_62 6 rfl) rfl rfl rfl (by decide) ?_
  refine gs_iconst (pc := 11) (gd gk_62 7 rfl) (0) rfl ?_
  refine gs_bipush (pc := 12) (gd gk_62 8 rfl) (10) rfl ?_
  refine gs_copy gs_sl (pc := 14) (gd gk_62 9 rfl) (by decide) (by decide) (Nat.le_of_ble_eq_true rfl) rfl rfl (by decide) (by decide) (by decide) (Nat.le_of_ble_eq_true rfl) (Nat.le_of_ble_eq_true rfl) (fun I_1 hI_1 => ?_)
  refine gs_aload_n (pc := 17) (gd gk_62 10 rfl) rfl ?_
  refine gs_dup (pc := 18) (gd gk_62 11 rfl) rfl ?_
  refine gs_getI (pc := 19) (gd gk_62 12 rfl) rfl rfl ?_
  refine gs_aload_n (pc := 22) (gd gk_62 13 rfl) rfl ?_
  refine gs_getR (r := 78) (pc := 23) (gd gk_62 14 rfl) rfl rfl rfl (by decide) ?_
  refine gs_iconst (pc := 26) (gd gk_62 15 rfl) (1) rfl ?_
  refine gs_ialoadK (1) (9) (pc := 27) (gd gk_62 16 rfl) (Or.inl rfl) rfl (by decide) (by first | rfl | (simp only [Int32.ofNat_add, Int32.ofNat_mul]; rfl) | (simp only [Int32.ofNat_add, Int32.ofNat_mul])) (by omega) ?_
  refine gs_iadd (pc := 28) (gd gk_62 17 rfl) ?_
  refine gs_putI (pc := 29) (gd gk_62 18 rfl) rfl rfl rfl rfl (fun I_2 hI_2 => ?_)
  refine gs_aload_n (pc := 32) (gd gk_62 19 rfl) rfl ?_
  refine gs_dup (pc := 33) (gd gk_62 20 rfl) rfl ?_
  refine gs_getI (pc := 34) (gd gk_62 21 rfl) rfl rfl ?_
  refine gs_iconst (pc := 37) (gd gk_62 22 rfl) (1) rfl ?_
  refine gs_iadd (pc := 38) (gd gk_62 23 rfl) ?_
  refine gs_putI (pc := 39) (gd gk_62 24 rfl) rfl rfl rfl rfl (fun I_3 hI_3 => ?_)
  -- end 1: return, pc 42, locals [(0, .ref (57)), (1, .ref (12))]
  have o1 : ∀ p, p ≠ 13 → I_1 p = I p := fun p hp => by rw [hI_1]; funext z; simp [gw_cp, hp]
  have e2 : ∀ c, c < 10 → I_1 13 c = I 60 c := fun c hc => by
    have z0 : (0 : Int32).toNatClampNeg = 0 := rfl
    have z10 : (10 : Int32).toNatClampNeg = 10 := rfl
    rw [hI_1]
    simp [gw_cp, va_cpy, z0, z10, hc]
  have o3 : ∀ p, p ≠ 12 → I_3 p = I_1 p := fun p hp => by rw [hI_3, gw_u_o hp, hI_2, gw_u_o hp]
  have e12 := o1 12 (by omega)
  have e78 := o1 78 (by omega)
  have e3 : I_3 12 1 = I 12 1 ∧ I_3 12 2 = I 12 2 + I 78 1 ∧ I_3 12 3 = I 12 3 + 1 := by
    refine ⟨?_, ?_, ?_⟩ <;> subst hI_3 hI_2 <;> simp [gw_u, e12, e78]
  exact gs_ret (pc := 42) (gd gk_62 25 rfl) rfl (Nat.zero_le _) (Nat.zero_le _) (⟨rfl, I_3, rfl, fun c hc => by rw [o3 13 (by omega)]; exact e2 c hc, e3.1, e3.2.1, e3.2.2, fun p q1 q2 => by rw [o3 p q1, o1 p q2]⟩)
/-- the smells an hour on -/
abbrev gq_nx (σ : Nat → Nat → Int32) (h0 bc : Nat) (bk : Bool) (ch : Int32) (s : Nat → Int32) : Nat → Int32 := gq_st σ (σ 1 h0) bk bc ch s
theorem c_hour (bk : Bool) (nx sz : Nat) (h1 : I 16 1 = Int32.ofNat nx) (h2 : nx < 14) (h3 : I 16 2 = Int32.ofNat sz) (h4 : sz ≤ 14) (hn : gq_now I W N h0 L bc) : gw_E V 72 (0, [(0, .ref 3), (1, .int (gz_b bk))], [], gS n I J, 0, 0) (fun v w' => ∃ I2 y, w' = gS n I2 J ∧ v = some (.int y) ∧ if h0 = W then y = -3 ∧ I2 = I else y = gq_who (gz_S I) (gq_nx (gz_S I) h0 bc bk (I 12 1) (I 13)) N ∧ gz_rm I I2 nx sz ∧ (∀ c, c < 10 → I2 13 c = gq_nx (gz_S I) h0 bc bk (I 12 1) (I 13) c) ∧ I2 12 1 = I 12 1 ∧ I2 12 2 = I 12 2 + gq_hc (gz_S I) (gq_nx (gz_S I) h0 bc bk (I 12 1) (I 13)) bk (decide (gz_S I 1 h0 = 1)) (fun _ => true) N ∧ I2 12 3 = Int32.ofNat (h0 + 1) ∧ I2 78 0 = I 78 0 ∧ I2 79 0 = I 79 0 ∧ I2 69 = I 69 ∧ ∀ p, p ≠ 18 + 2 * nx → p ≠ 18 + 2 * nx + 1 → p ≠ 16 → p ≠ 12 → p ≠ 13 → ¬ (57 ≤ p ∧ p ≤ 125) → p ≠ 14 → p ≠ 15 → I2 p = I p) := by
  obtain ⟨hok, hh, hW, hbc, hb9, h78, h79, h69⟩ := id hn
  have hW8 : W ≤ 8 := hok.2.1
  have hl := gz_left0 (W := W) (h0 := h0) (I := I) hok.1 hh (by omega) hW8
  have tail : ¬ h0 = W → ∀ I1 (pl : Int32), gz_in pl (Int32.ofNat h0) = bk → gz_rm I I1 nx sz → (∀ p, p ≠ 18 + 2 * nx → p ≠ 18 + 2 * nx + 1 → p ≠ 16 → ¬ (57 ≤ p ∧ p ≤ 125) → I1 p = I p) → I1 78 0 = I 78 0 → I1 79 0 = I 79 0 → I1 69 = I 69 → gq_on I1 W N h0 L bc → I1 57 6 = I 12 1 → (∀ c, c < 10 → I1 59 c = I 13 c) → gw_E V 72 (61, [(0, .ref 3), (1, .int (gz_b bk))], [.int 0, .int pl, .ref 57], gS n I1 J, 0, 0) (fun v w' => ∃ I2 y, w' = gS n I2 J ∧ v = some (.int y) ∧ if h0 = W then y = -3 ∧ I2 = I else y = gq_who (gz_S I) (gq_nx (gz_S I) h0 bc bk (I 12 1) (I 13)) N ∧ gz_rm I I2 nx sz ∧ (∀ c, c < 10 → I2 13 c = gq_nx (gz_S I) h0 bc bk (I 12 1) (I 13) c) ∧ I2 12 1 = I 12 1 ∧ I2 12 2 = I 12 2 + gq_hc (gz_S I) (gq_nx (gz_S I) h0 bc bk (I 12 1) (I 13)) bk (decide (gz_S I 1 h0 = 1)) (fun _ => true) N ∧ I2 12 3 = Int32.ofNat (h0 + 1) ∧ I2 78 0 = I 78 0 ∧ I2 79 0 = I 79 0 ∧ I2 69 = I 69 ∧ ∀ p, p ≠ 18 + 2 * nx → p ≠ 18 + 2 * nx + 1 → p ≠ 16 → p ≠ 12 → p ≠ 13 → ¬ (57 ≤ p ∧ p ≤ 125) → p ≠ 14 → p ≠ 15 → I2 p = I p) := by
    intro hw I1 pl hpl g1 g2 g3 g4 g5 g6 g7 g8
    have hS1 : gz_S I1 = gz_S I := gz_S_eq (fun p q1 q2 => g2 p (by omega) (by omega) (by omega) (by omega))
    refine gs_callV (as := [.int (pl), .int (0)]) (pc := 61) (gd gk_72 30 rfl) (by decide) rfl (by decide) rfl rfl (Nat.le_of_ble_eq_true rfl) gq_72_53 (Nat.le_of_ble_eq_true rfl) (c_take2 pl 0 g6) (fun r_61 w_61 q_61 => ?_)
    obtain ⟨rfl, I_t, rfl, t1, t2, t3⟩ := q_61
    refine gs_aload_n (pc := 64) (gd gk_72 31 rfl) rfl ?_
    refine gs_getR (r := 57) (pc := 65) (gd gk_72 32 rfl) rfl rfl rfl (by decide) ?_
    refine gs_aload_n (pc := 68) (gd gk_72 33 rfl) rfl ?_
    refine gs_getR (r := 12) (pc := 69) (gd gk_72 34 rfl) rfl rfl rfl (by decide) ?_
    refine gs_callV (as := [.ref (12)]) (pc := 72) (gd gk_72 35 rfl) (by decide) rfl (by decide) rfl rfl (Nat.le_of_ble_eq_true rfl) gq_72_62 (Nat.le_of_ble_eq_true rfl) (c_lead) (fun r_72 w_72 q_72 => ?_)
    obtain ⟨rfl, I_l, rfl, l1, l2, l3, l4, l5⟩ := q_72
    refine gs_aload_n (pc := 75) (gd gk_72 36 rfl) rfl ?_
    refine gs_getR (r := 57) (pc := 76) (gd gk_72 37 rfl) rfl rfl rfl (by decide) ?_
    refine gs_getR (r := 80) (pc := 79) (gd gk_72 38 rfl) rfl rfl rfl (by decide) ?_
    refine gs_iconst (pc := 82) (gd gk_72 39 rfl) (1) rfl ?_
    refine gs_ialoadK (1) (9) (pc := 83) (gd gk_72 40 rfl) (Or.inl rfl) rfl (by decide) (by first | rfl | (simp only [Int32.ofNat_add, Int32.ofNat_mul]; rfl) | (simp only [Int32.ofNat_add, Int32.ofNat_mul])) (by omega) ?_
    -- end 1: ireturn (I_l 80 1), pc 84, locals [(0, .ref (3)), (1, .int (gz_b bk))]
    obtain ⟨a1, a2, a3, a4, a5⟩ := t3 1 (by omega)
    have sq1 : gq_sq (gz_S I1) (fun q => gq_wd (gz_S I1) 0 (h0 + q)) (fun q => gz_in pl (Int32.ofNat (h0 + q))) bc (I1 57 6) (I1 59) 1 = gq_nx (gz_S I) h0 bc bk (I 12 1) (I 13) := by
      funext c
      show gq_st (gz_S I1) (gq_wd (gz_S I1) 0 h0) (gz_in pl (Int32.ofNat h0)) bc (I1 57 6) (I1 59) c = _
      rw [hS1, gq_wd_0 _ _ (by omega), hpl, g7, gq_st_c g8]
    have cm1 : gq_cm (gz_S I1) (fun q => gq_wd (gz_S I1) 0 (h0 + q)) (fun q => gz_in pl (Int32.ofNat (h0 + q))) bc (I1 57 6) (I1 59) (fun _ => true) N 1 = gq_hc (gz_S I) (gq_nx (gz_S I) h0 bc bk (I 12 1) (I 13)) bk (decide (gz_S I 1 h0 = 1)) (fun _ => true) N := by
      show 0 + gq_hc (gz_S I1) (gq_sq (gz_S I1) (fun q => gq_wd (gz_S I1) 0 (h0 + q)) (fun q => gz_in pl (Int32.ofNat (h0 + q))) bc (I1 57 6) (I1 59) 1) (gz_in pl (Int32.ofNat h0)) (decide (gq_wd (gz_S I1) 0 h0 = 1)) (fun _ => true) N = _
      rw [sq1, hS1, gq_wd_0 _ _ (by omega), hpl, Int32.zero_add]
    have hq := gq_qf_w t1
    have o : ∀ p, p ≠ 12 → p ≠ 13 → ¬ (57 ≤ p ∧ p ≤ 125) → p ≠ 14 → p ≠ 15 → I_l p = I1 p := fun p q1 q2 q3 q4 q5 => by rw [l5 p q1 q2]; exact hq.1 p q3 q4 q5
    have e12 : I_t 12 = I 12 := by rw [hq.1 12 (by omega) (by omega) (by omega)]; exact g2 12 (by omega) (by omega) (by omega) (by omega)
    exact gs_iret (pc := 84) (gd gk_72 41 rfl) rfl (rfl) (Nat.zero_le _) (Nat.zero_le _) (⟨I_l, _, rfl, rfl, by
      rw [if_neg hw]
      refine ⟨by rw [l5 80 (by omega) (by omega), a5 (by omega), sq1, hS1], ⟨⟨fun c hc => by rw [o _ (by omega) (by omega) (by omega) (by omega) (by omega)]; exact g1.1.1 c hc, by rw [o _ (by omega) (by omega) (by omega) (by omega) (by omega)]; exact g1.1.2.1, by rw [o _ (by omega) (by omega) (by omega) (by omega) (by omega)]; exact g1.1.2.2.1, by rw [o _ (by omega) (by omega) (by omega) (by omega) (by omega)]; exact g1.1.2.2.2⟩, by rw [o _ (by omega) (by omega) (by omega) (by omega) (by omega)]; exact g1.2.1, by rw [o _ (by omega) (by omega) (by omega) (by omega) (by omega)]; exact g1.2.2⟩, fun c hc => ?_, by rw [l2, e12], by rw [l3, e12, a3, cm1], by rw [l4, e12, hh, zsucc], by rw [l5 78 (by omega) (by omega), hq.2.1, g3], by rw [l5 79 (by omega) (by omega), hq.2.2.1, g4], by rw [l5 69 (by omega) (by omega), hq.2.2.2, g5], fun p q1 q2 q3 q4 q5 q6 q7 q8 => by rw [o p q4 q5 q6 q7 q8]; exact g2 p q1 q2 q3 q6⟩
      rw [l1 c hc, ← sq1]
      exact a1 c hc⟩)
  refine gs_aload_n (pc := 0) (gd gk_72 0 rfl) rfl ?_
  refine gs_callV (as := []) (pc := 1) (gd gk_72 1 rfl) (by decide) rfl (by decide) rfl rfl (Nat.le_of_ble_eq_true rfl) gq_72_97 (Nat.le_of_ble_eq_true rfl) (c_left) (fun r_1 w_1 q_1 => ?_)
  obtain ⟨rfl, rfl⟩ := q_1
  refine gs_if_ne (pc := 4) (gd gk_72 2 rfl) (fun c4 => ?_) (fun c4 => ?_)
  · refine gs_aload_n (pc := 10) (gd gk_72 5 rfl) rfl ?_
    refine gs_getR (r := 16) (pc := 11) (gd gk_72 6 rfl) rfl rfl rfl (by decide) ?_
    refine gs_aload_n (pc := 14) (gd gk_72 7 rfl) rfl ?_
    refine gs_getR (r := 12) (pc := 15) (gd gk_72 8 rfl) rfl rfl rfl (by decide) ?_
    refine gs_callV (as := [.ref (12)]) (pc := 18) (gd gk_72 9 rfl) (by decide) rfl (by decide) rfl rfl (Nat.le_of_ble_eq_true rfl) gq_72_2 (Nat.le_of_ble_eq_true rfl) (c_remember nx sz h1 h2 h3 h4) (fun r_18 w_18 q_18 => ?_)
    obtain ⟨rfl, I_r, rfl, r1, r2, r3, r4⟩ := q_18
    refine gs_aload_n (pc := 21) (gd gk_72 10 rfl) rfl ?_
    refine gs_getR (r := 57) (pc := 22) (gd gk_72 11 rfl) rfl rfl rfl (by decide) ?_
    refine gs_aload_n (pc := 25) (gd gk_72 12 rfl) rfl ?_
    refine gs_getR (r := 12) (pc := 26) (gd gk_72 13 rfl) rfl rfl rfl (by decide) ?_
    refine gs_aload_n (pc := 29) (gd gk_72 14 rfl) rfl ?_
    refine gs_getR (r := 6) (pc := 30) (gd gk_72 15 rfl) rfl rfl rfl (by decide) ?_
    refine gs_getI (pc := 33) (gd gk_72 16 rfl) rfl rfl ?_
    refine gs_as (Int32.ofNat bc) (by rw [r4 6 (by omega) (by omega) (by omega)]; exact hbc) ?_
    refine gs_callV (as := [.ref (12), .int (Int32.ofNat bc)]) (pc := 36) (gd gk_72 17 rfl) (by decide) rfl (by decide) rfl rfl (Nat.le_of_ble_eq_true rfl) gq_72_50 (Nat.le_of_ble_eq_true rfl) (c_start_now bc h0 L (by rw [gz_S_eq (fun p q1 q2 => r4 p (by omega) (by omega) (by omega))]; exact hok) (by rw [r4 12 (by omega) (by omega) (by omega)]; exact hh) hW hb9 (by rw [r4 78 (by omega) (by omega) (by omega)]; exact h78) (by rw [r4 79 (by omega) (by omega) (by omega)]; exact h79) (by rw [r4 69 (by omega) (by omega) (by omega)]; exact h69)) (fun r_36 w_36 q_36 => ?_)
    obtain ⟨rfl, I_s, rfl, s1, s2, s3, s4⟩ := q_36
    refine gs_aload_n (pc := 39) (gd gk_72 18 rfl) rfl ?_
    refine gs_getR (r := 57) (pc := 40) (gd gk_72 19 rfl) rfl rfl rfl (by decide) ?_
    refine gs_iload_n (pc := 43) (gd gk_72 20 rfl) rfl ?_
    refine gs_if_eq (pc := 44) (gd gk_72 21 rfl) (fun c44 => ?_) (fun c44 => ?_)
    · refine gs_iconst (pc := 59) (gd gk_72 28 rfl) (0) rfl ?_
      refine gs_iconst (pc := 60) (gd gk_72 29 rfl) (0) rfl ?_
      -- end 1: stop, pc 61, locals [(0, .ref (3)), (1, .int (gz_b bk))]
      have hw : ¬ h0 = W := fun e => c4 (hl.mpr e)
      have km : gz_rm I I_s nx sz := ⟨⟨fun c hc => by rw [s1 _ (by omega) (by omega)]; exact r1.1 c hc, by rw [s1 _ (by omega) (by omega)]; exact r1.2.1, by rw [s1 _ (by omega) (by omega)]; exact r1.2.2.1, by rw [s1 _ (by omega) (by omega)]; exact r1.2.2.2⟩, by rw [s1 _ (by omega) (by omega)]; exact r2, by rw [s1 _ (by omega) (by omega)]; exact r3⟩
      have g2 : ∀ p, p ≠ 18 + 2 * nx → p ≠ 18 + 2 * nx + 1 → p ≠ 16 → ¬ (57 ≤ p ∧ p ≤ 125) → I_s p = I p := fun p q1 q2 q3 q4 => by rw [s1 p (by omega) (by omega)]; exact r4 p q1 q2 q3
      have gx : ∀ p, p = 78 ∨ p = 79 ∨ p = 69 → I_s p = I p := fun p hp => by rw [s1 p (by omega) (by omega)]; exact r4 p (by omega) (by omega) (by omega)
      have h12 : I_r 12 = I 12 := r4 12 (by omega) (by omega) (by omega)
      have h13 : I_r 13 = I 13 := r4 13 (by omega) (by omega) (by omega)
      exact tail hw I_s 0 (by rw [gz_in_0 h0 (by omega)]; exact (gz_b_eq.mp c44).symm) km g2 (by rw [gx 78 (by omega)]) (by rw [gx 79 (by omega)]) (gx 69 (by omega)) s2 (by rw [s3, h12]) (fun c hc => by rw [s4 c hc, h13])
    · refine gs_iconst (pc := 47) (gd gk_72 22 rfl) (1) rfl ?_
      refine gs_aload_n (pc := 48) (gd gk_72 23 rfl) rfl ?_
      refine gs_getR (r := 12) (pc := 49) (gd gk_72 24 rfl) rfl rfl rfl (by decide) ?_
      refine gs_getI (pc := 52) (gd gk_72 25 rfl) rfl rfl ?_
      refine gs_as (Int32.ofNat h0) (by rw [s1 12 (by omega) (by omega), r4 12 (by omega) (by omega) (by omega)]; exact hh) ?_
      refine gs_ishl (pc := 55) (gd gk_72 26 rfl) ?_
      refine gs_goto (pc := 56) (gd gk_72 27 rfl) ?_
      refine gs_iconst (pc := 60) (gd gk_72 29 rfl) (0) rfl ?_
      -- end 2: stop, pc 61, locals [(0, .ref (3)), (1, .int (gz_b bk))]
      have hw : ¬ h0 = W := fun e => c4 (hl.mpr e)
      have km : gz_rm I I_s nx sz := ⟨⟨fun c hc => by rw [s1 _ (by omega) (by omega)]; exact r1.1 c hc, by rw [s1 _ (by omega) (by omega)]; exact r1.2.1, by rw [s1 _ (by omega) (by omega)]; exact r1.2.2.1, by rw [s1 _ (by omega) (by omega)]; exact r1.2.2.2⟩, by rw [s1 _ (by omega) (by omega)]; exact r2, by rw [s1 _ (by omega) (by omega)]; exact r3⟩
      have g2 : ∀ p, p ≠ 18 + 2 * nx → p ≠ 18 + 2 * nx + 1 → p ≠ 16 → ¬ (57 ≤ p ∧ p ≤ 125) → I_s p = I p := fun p q1 q2 q3 q4 => by rw [s1 p (by omega) (by omega)]; exact r4 p q1 q2 q3
      have gx : ∀ p, p = 78 ∨ p = 79 ∨ p = 69 → I_s p = I p := fun p hp => by rw [s1 p (by omega) (by omega)]; exact r4 p (by omega) (by omega) (by omega)
      have h12 : I_r 12 = I 12 := r4 12 (by omega) (by omega) (by omega)
      have h13 : I_r 13 = I 13 := r4 13 (by omega) (by omega) (by omega)
      exact tail hw I_s _ (by rw [gz_one h0 (by omega) h0 (by omega), decide_eq_true rfl]; exact (gz_b_ne.mp c44).symm) km g2 (by rw [gx 78 (by omega)]) (by rw [gx 79 (by omega)]) (gx 69 (by omega)) s2 (by rw [s3, h12]) (fun c hc => by rw [s4 c hc, h13])
  · refine gs_bipush (pc := 7) (gd gk_72 3 rfl) (-3) rfl ?_
    -- end 3: ireturn (-3), pc 9, locals [(0, .ref (3)), (1, .int (gz_b bk))]
    exact gs_iret (pc := 9) (gd gk_72 4 rfl) rfl (rfl) (Nat.zero_le _) (Nat.zero_le _) (⟨I, -3, rfl, rfl, by rw [if_pos (hl.mp c4)]; exact ⟨rfl, rfl⟩⟩)
theorem m_hour (bk : Bool) (nx sz : Nat) (h1 : I 126 20 = Int32.ofNat nx) (h2 : nx < 14) (h3 : I 126 19 = Int32.ofNat sz) (h4 : sz ≤ 14) (hn : gm_now I W N h0 L bc) : gw_E V 131 (0, [(0, .ref 126), (1, .int (gz_b bk))], [], gS n I J, 0, 0) (fun v w' => ∃ I2 y, w' = gS n I2 J ∧ v = some (.int y) ∧ if h0 = W then y = -3 ∧ I2 = I else y = gq_who (gz_M I) (gq_nx (gz_M I) h0 bc bk (I 133 10) (I 133)) N ∧ gm_rm I I2 nx sz ∧ (∀ c, c < 10 → I2 133 c = gq_nx (gz_M I) h0 bc bk (I 133 10) (I 133) c) ∧ I2 133 10 = I 133 10 ∧ I2 133 11 = I 133 11 + gq_hc (gz_M I) (gq_nx (gz_M I) h0 bc bk (I 133 10) (I 133)) bk (decide (gz_M I 1 h0 = 1)) (fun _ => true) N ∧ I2 133 12 = Int32.ofNat (h0 + 1) ∧ (∀ q, q ≠ 19 → q ≠ 20 → I2 126 q = I 126 q) ∧ ∀ p, p ≠ 126 → p ≠ 128 → p ≠ 133 → p ≠ 135 → p ≠ 136 → I2 p = I p) := by
  obtain ⟨hok, hh, hW, hbc, hb9⟩ := id hn
  have hW8 : W ≤ 8 := hok.2.1
  have hW3 : I 126 3 = Int32.ofNat W := hok.1
  have tail : ¬ h0 = W → ∀ I1, gm_rm I I1 nx sz → (∀ h, h < 8 → I1 128 h = I 127 h) → (∀ q, q ≠ 19 → q ≠ 20 → I1 126 q = I 126 q) → (∀ p, p ≠ 126 → p ≠ 128 → p ≠ 136 → I1 p = I p) → gw_E V 131 (25, [(0, .ref 126), (1, .int (gz_b bk))], [], gS n I1 J, 0, 0) (fun v w' => ∃ I2 y, w' = gS n I2 J ∧ v = some (.int y) ∧ if h0 = W then y = -3 ∧ I2 = I else y = gq_who (gz_M I) (gq_nx (gz_M I) h0 bc bk (I 133 10) (I 133)) N ∧ gm_rm I I2 nx sz ∧ (∀ c, c < 10 → I2 133 c = gq_nx (gz_M I) h0 bc bk (I 133 10) (I 133) c) ∧ I2 133 10 = I 133 10 ∧ I2 133 11 = I 133 11 + gq_hc (gz_M I) (gq_nx (gz_M I) h0 bc bk (I 133 10) (I 133)) bk (decide (gz_M I 1 h0 = 1)) (fun _ => true) N ∧ I2 133 12 = Int32.ofNat (h0 + 1) ∧ (∀ q, q ≠ 19 → q ≠ 20 → I2 126 q = I 126 q) ∧ ∀ p, p ≠ 126 → p ≠ 128 → p ≠ 133 → p ≠ 135 → p ≠ 136 → I2 p = I p) := by
    intro hw I1 g1 g2 g3 g4
    have hM1 : gz_M I1 = gz_M I := gz_M_eq (fun k hk => g3 k (by omega) (by omega)) (g4 127 (by omega) (by omega) (by omega)) (g4 129 (by omega) (by omega) (by omega))
    have e133 : I1 133 = I 133 := g4 133 (by omega) (by omega) (by omega)
    have hL : gz_L I1 0 = I 133 := by
      funext c
      show I1 133 (13 * 0 + c) = _
      rw [Nat.mul_zero, Nat.zero_add, e133]
    have hwd : gz_M I 1 h0 = -1 ∨ gz_M I 1 h0 = 0 ∨ gz_M I 1 h0 = 1 := by
      obtain ⟨-, -, -, -, -, -, -, hw, -⟩ := hok
      exact hw h0 (by omega)
    refine gs_aload_n (pc := 25) (gd gk_131 13 rfl) rfl ?_
    refine gs_iconst (pc := 26) (gd gk_131 14 rfl) (0) rfl ?_
    refine gs_iload_n (pc := 27) (gd gk_131 15 rfl) rfl ?_
    refine gs_bipush (pc := 28) (gd gk_131 16 rfl) (63) rfl ?_
    refine gs_callV (as := [.int (0), .int (gz_b bk), .int (63)]) (pc := 30) (gd gk_131 17 rfl) (by decide) rfl (by decide) rfl rfl (Nat.le_of_ble_eq_true rfl) gq_131_127 (Nat.le_of_ble_eq_true rfl) (m_pass (W := W) (N := N) 0 h0 bc bk 63 (gz_M I 1 h0) (by omega) (by rw [hM1]; exact hok) (by rw [e133]; exact hh) (by omega) (g2 h0 (by omega)) hwd (by rw [g3 0 (by omega) (by omega)]; exact hbc) hb9) (fun r_30 w_30 q_30 => ?_)
    obtain ⟨I_p, rfl, rfl, p1, p2, p3, p4, p5⟩ := q_30
    have hMp : gz_M I_p = gz_M I := (gz_M_eq (fun k _ => by rw [p5 126 (by omega) (by omega)]) (p5 127 (by omega) (by omega)) (p5 129 (by omega) (by omega))).trans hM1
    rw [hM1, hL, show I1 133 (13 * 0 + 10) = I 133 10 by rw [e133]] at p1 p2
    refine gs_pop (pc := 33) (gd gk_131 18 rfl) rfl ?_
    refine gs_aload_n (pc := 34) (gd gk_131 19 rfl) rfl ?_
    refine gs_iconst (pc := 35) (gd gk_131 20 rfl) (0) rfl ?_
    refine gs_callV (as := [.int (0)]) (pc := 36) (gd gk_131 21 rfl) (by decide) rfl (by decide) rfl rfl (Nat.le_of_ble_eq_true rfl) gq_131_122 (Nat.le_of_ble_eq_true rfl) (m_who 0 (by omega) (by rw [hMp]; exact hok)) (fun r_36 w_36 q_36 => ?_)
    obtain ⟨rfl, rfl⟩ := q_36
    -- end 1: ireturn (gq_who (gz_M I_p) (gz_L I_p 0) N), pc 39, locals [(0, .ref (126)), (1, .int (gz_b bk))]
    have q1 : ∀ c, c < 10 → I_p 133 c = gq_nx (gz_M I) h0 bc bk (I 133 10) (I 133) c := fun c hc => by have := p1 c hc; rw [Nat.mul_zero, Nat.zero_add] at this; exact this
    have hso : gq_hc (gz_M I) (gq_nx (gz_M I) h0 bc bk (I 133 10) (I 133)) bk (decide (gz_M I 1 h0 = 1)) (fun m => gz_in 63 (Int32.ofNat m)) N = gq_hc (gz_M I) (gq_nx (gz_M I) h0 bc bk (I 133 10) (I 133)) bk (decide (gz_M I 1 h0 = 1)) (fun _ => true) N := gq_hc_k (gq_sim_rf _ N) _ _ _ (gm_all hok.2.2.2.1) (Nat.le_refl N)
    exact gs_iret (pc := 39) (gd gk_131 22 rfl) rfl (rfl) (Nat.zero_le _) (Nat.zero_le _) (⟨I_p, _, rfl, rfl, by
      rw [if_neg hw]
      refine ⟨?_, ⟨by rw [p5 136 (by omega) (by omega)]; exact g1.1, by rw [p5 136 (by omega) (by omega)]; exact g1.2.1, by rw [p5 126 (by omega) (by omega)]; exact g1.2.2.1, by rw [p5 126 (by omega) (by omega)]; exact g1.2.2.2⟩, q1, ?_, ?_, p3, fun q q1 q2 => by rw [p5 126 (by omega) (by omega)]; exact g3 q q1 q2, fun p q1 q2 q3 q4 q5 => by rw [p5 p q3 q4]; exact g4 p q1 q2 q5⟩
      · rw [hMp]
        refine gq_who_c (fun c hc => ?_) (gq_ok_n hok)
        show I_p 133 (13 * 0 + c) = _
        rw [Nat.mul_zero, Nat.zero_add]; exact q1 c hc
      · rw [p4 10 (by omega) (by omega) (by omega), e133]
      · have p2 : I_p 133 11 = I1 133 11 + _ := p2
        rw [p2, e133]; exact congrArg (I 133 11 + ·) hso⟩)
  refine gs_aload_n (pc := 0) (gd gk_131 0 rfl) rfl ?_
  refine gs_getR (r := 133) (pc := 1) (gd gk_131 1 rfl) rfl rfl rfl (by decide) ?_
  refine gs_bipush (pc := 4) (gd gk_131 2 rfl) (12) rfl ?_
  refine gs_ialoadK (12) (52) (pc := 6) (gd gk_131 3 rfl) (Or.inl rfl) rfl (by decide) (by first | rfl | (simp only [Int32.ofNat_add, Int32.ofNat_mul]; rfl) | (simp only [Int32.ofNat_add, Int32.ofNat_mul])) (by omega) ?_
  refine gs_as (Int32.ofNat h0) (hh) ?_
  refine gs_aload_n (pc := 7) (gd gk_131 4 rfl) rfl ?_
  refine gs_getI (pc := 8) (gd gk_131 5 rfl) rfl rfl ?_
  refine gs_as (Int32.ofNat W) (hW3) ?_
  refine gs_icmp_ne (pc := 11) (gd gk_131 6 rfl) (fun c11 => ?_) (fun c11 => ?_)
  · replace c11 : ¬ (h0 = W) := fun q9 => c11 ((zeq (k := h0) (m := W) (by omega) (by omega)).mpr q9)
    refine gs_aload_n (pc := 17) (gd gk_131 9 rfl) rfl ?_
    refine gs_callV (as := []) (pc := 18) (gd gk_131 10 rfl) (by decide) rfl (by decide) rfl rfl (Nat.le_of_ble_eq_true rfl) gq_131_130 (Nat.le_of_ble_eq_true rfl) (m_keepAct nx sz h1 h2 h3 h4) (fun r_18 w_18 q_18 => ?_)
    obtain ⟨rfl, I_r, rfl, r1, r2, r3, r4, r5, r6⟩ := q_18
    refine gs_aload_n (pc := 21) (gd gk_131 11 rfl) rfl ?_
    refine gs_callV (as := []) (pc := 22) (gd gk_131 12 rfl) (by decide) rfl (by decide) rfl rfl (Nat.le_of_ble_eq_true rfl) gq_131_128 (Nat.le_of_ble_eq_true rfl) (m_winds) (fun r_22 w_22 q_22 => ?_)
    obtain ⟨rfl, I_w, rfl, w1, w2⟩ := q_22
    -- end 1: stop, pc 25, locals [(0, .ref (126)), (1, .int (gz_b bk))]
    exact tail c11 I_w ⟨by rw [w2 136 (by omega)]; exact r1, by rw [w2 136 (by omega)]; exact r2, by rw [w2 126 (by omega)]; exact r3, by rw [w2 126 (by omega)]; exact r4⟩ (fun h hh8 => by rw [w1 h hh8, r6 127 (by omega) (by omega)]) (fun q q1 q2 => by rw [w2 126 (by omega)]; exact r5 q q1 q2) (fun p q1 q2 q3 => by rw [w2 p q2]; exact r6 p q1 q3)
  · replace c11 : h0 = W := (zeq (k := h0) (m := W) (by omega) (by omega)).mp c11
    refine gs_bipush (pc := 14) (gd gk_131 7 rfl) (-3) rfl ?_
    -- end 2: ireturn (-3), pc 16, locals [(0, .ref (126)), (1, .int (gz_b bk))]
    exact gs_iret (pc := 16) (gd gk_131 8 rfl) rfl (rfl) (Nat.zero_le _) (Nat.zero_le _) (⟨I, -3, rfl, rfl, by rw [if_pos c11]; exact ⟨rfl, rfl⟩⟩)
end
