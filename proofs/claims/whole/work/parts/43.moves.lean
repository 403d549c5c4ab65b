/-! ===== chimney, undo: both ===== -/
section
variable {V : gw_V} {n W N h0 L bc : Nat} {I : Nat → Nat → Int32} {J : Nat → Nat → Int64}
theorem gz_and1 (s k : Int32) : (s >>> (k &&& 31)) &&& 1 = gz_b (gz_in s k) := by
  unfold gz_in
  generalize s >>> (k &&& 31) = x
  have h : x &&& 1 = 0 ∨ x &&& 1 = 1 := by
    have e := BitVec.and_one_eq_setWidth_ofBool_getLsbD (x := x.toBitVec)
    cases hb : x.toBitVec.getLsbD 0 with
    | false => exact .inl (Int32.toBitVec_inj.mp (by rw [hb] at e; exact e))
    | true => exact .inr (Int32.toBitVec_inj.mp (by rw [hb] at e; exact e))
  rcases h with h | h <;> rw [h] <;> rfl
/-- what an act leaves behind: the class -/
def gz_rm (I I2 : Nat → Nat → Int32) (nx sz : Nat) : Prop := gz_mm I2 (18 + 2 * nx) I 12 ∧ I2 16 1 = Int32.ofNat ((nx + 1) % 14) ∧ I2 16 2 = Int32.ofNat (min (sz + 1) 14)
/-- what an act leaves behind: the reference -/
def gm_rm (I I2 : Nat → Nat → Int32) (nx sz : Nat) : Prop := (∀ c, c < 13 → I2 136 (13 * nx + c) = I 133 c) ∧ (∀ q, ¬ (13 * nx ≤ q ∧ q < 13 * nx + 13) → I2 136 q = I 136 q) ∧ I2 126 20 = Int32.ofNat ((nx + 1) % 14) ∧ I2 126 19 = Int32.ofNat (min (sz + 1) 14)
theorem gz_left0 {I : Nat → Nat → Int32} (a : I 6 3 = Int32.ofNat W) (b : I 12 3 = Int32.ofNat h0) (hW : h0 ≤ W) (h8 : W ≤ 8) : I 6 3 - I 12 3 = 0 ↔ h0 = W := by
  rw [a, b]
  have h : ∀ w, w < 9 → ∀ h, h < 9 → h ≤ w → (Int32.ofNat w - Int32.ofNat h = 0 ↔ h = w) := by decide +kernel
  exact h W (by omega) h0 (by omega) hW
theorem c_chimney (x : Int32) (nx sz : Nat) (h1 : I 16 1 = Int32.ofNat nx) (h2 : nx < 14) (h3 : I 16 2 = Int32.ofNat sz) (h4 : sz ≤ 14) (a : I 6 3 = Int32.ofNat W) (b : I 12 3 = Int32.ofNat h0) (hW : h0 ≤ W) (h8 : W ≤ 8) : gw_E V 73 (0, [(0, .ref 3), (1, .int x)], [], gS n I J, 0, 0) (fun v w' => ∃ I2 y, w' = gS n I2 J ∧ v = some (.int y) ∧ if gz_rg x 0 9 then (if h0 = W then y = -3 ∧ I2 = I else y = gz_b (gz_in (I 12 1 ^^^ (1 <<< (x &&& 31))) x) ∧ gz_rm I I2 nx sz ∧ I2 12 1 = I 12 1 ^^^ (1 <<< (x &&& 31)) ∧ (∀ q, q ≠ 1 → I2 12 q = I 12 q) ∧ ∀ p, p ≠ 18 + 2 * nx → p ≠ 18 + 2 * nx + 1 → p ≠ 16 → p ≠ 12 → I2 p = I p) else y = -2 ∧ I2 = I) := by
  have hl := gz_left0 a b hW h8
  refine gs_iload_n (pc := 0) (gd gk_73 0 rfl) rfl ?_
  refine gs_callS (as := [.int (x)]) (pc := 1) (gd gk_73 1 rfl) (by decide) rfl rfl (Nat.le_of_ble_eq_true rfl) gq_73_93 (Nat.le_of_ble_eq_true rfl) (c_cell (x)) (fun r_1 w_1 q_1 => ?_)
  obtain ⟨rfl, rfl⟩ := q_1
  refine gs_if_ne (pc := 4) (gd gk_73 2 rfl) (fun c4 => ?_) (fun c4 => ?_)
  · refine gs_aload_n (pc := 10) (gd gk_73 5 rfl) rfl ?_
    refine gs_callV (as := []) (pc := 11) (gd gk_73 6 rfl) (by decide) rfl (by decide) rfl rfl (Nat.le_of_ble_eq_true rfl) gq_73_97 (Nat.le_of_ble_eq_true rfl) (c_left) (fun r_11 w_11 q_11 => ?_)
    obtain ⟨rfl, rfl⟩ := q_11
    refine gs_if_ne (pc := 14) (gd gk_73 7 rfl) (fun c14 => ?_) (fun c14 => ?_)
    · refine gs_aload_n (pc := 20) (gd gk_73 10 rfl) rfl ?_
      refine gs_getR (r := 16) (pc := 21) (gd gk_73 11 rfl) rfl rfl rfl (by decide) ?_
      refine gs_aload_n (pc := 24) (gd gk_73 12 rfl) rfl ?_
      refine gs_getR (r := 12) (pc := 25) (gd gk_73 13 rfl) rfl rfl rfl (by decide) ?_
      refine gs_callV (as := [.ref (12)]) (pc := 28) (gd gk_73 14 rfl) (by decide) rfl (by decide) rfl rfl (Nat.le_of_ble_eq_true rfl) gq_73_2 (Nat.le_of_ble_eq_true rfl) (c_remember nx sz h1 h2 h3 h4) (fun r_28 w_28 q_28 => ?_)
      obtain ⟨rfl, I_r, rfl, r1, r2, r3, r4⟩ := q_28
      refine gs_aload_n (pc := 31) (gd gk_73 15 rfl) rfl ?_
      refine gs_getR (r := 12) (pc := 32) (gd gk_73 16 rfl) rfl rfl rfl (by decide) ?_
      refine gs_dup (pc := 35) (gd gk_73 17 rfl) rfl ?_
      refine gs_getI (pc := 36) (gd gk_73 18 rfl) rfl rfl ?_
      refine gs_iconst (pc := 39) (gd gk_73 19 rfl) (1) rfl ?_
      refine gs_iload_n (pc := 40) (gd gk_73 20 rfl) rfl ?_
      refine gs_ishl (pc := 41) (gd gk_73 21 rfl) ?_
      refine gs_ixor (pc := 42) (gd gk_73 22 rfl) ?_
      refine gs_putI (pc := 43) (gd gk_73 23 rfl) rfl rfl rfl rfl (fun I_1 hI_1 => ?_)
      refine gs_aload_n (pc := 46) (gd gk_73 24 rfl) rfl ?_
      refine gs_getR (r := 12) (pc := 47) (gd gk_73 25 rfl) rfl rfl rfl (by decide) ?_
      refine gs_getI (pc := 50) (gd gk_73 26 rfl) rfl rfl ?_
      refine gs_iload_n (pc := 53) (gd gk_73 27 rfl) rfl ?_
      refine gs_callS (as := [.int ((I_1 12 1)), .int (x)]) (pc := 54) (gd gk_73 28 rfl) (by decide) rfl rfl (Nat.le_of_ble_eq_true rfl) gq_73_96 (Nat.le_of_ble_eq_true rfl) (c_in ((I_1 12 1)) (x)) (fun r_54 w_54 q_54 => ?_)
      obtain ⟨rfl, rfl⟩ := q_54
      refine gs_if_eq (pc := 57) (gd gk_73 29 rfl) (fun c57 => ?_) (fun c57 => ?_)
      · refine gs_iconst (pc := 64) (gd gk_73 32 rfl) (0) rfl ?_
        -- end 1: ireturn 0, pc 65, locals [(0, .ref (3)), (1, .int (x))]
        have hr : gz_rg x 0 9 = true := gz_b_ne.mp c4
        have hw : ¬ h0 = W := fun e => c14 (hl.mpr e)
        have e1 : I_r 12 = I 12 := r4 12 (by omega) (by omega) (by omega)
        have k1 : I_1 12 1 = I 12 1 ^^^ (1 <<< (x &&& 31)) := by rw [hI_1, gw_u_s]; simp only [upd, if_true]; rw [e1]
        have o : ∀ p, p ≠ 12 → I_1 p = I_r p := fun p hp => by rw [hI_1, gw_u_o hp]
        have km : gz_rm I I_1 nx sz := ⟨⟨fun c hc => by rw [o _ (by omega)]; exact r1.1 c hc, by rw [o _ (by omega)]; exact r1.2.1, by rw [o _ (by omega)]; exact r1.2.2.1, by rw [o _ (by omega)]; exact r1.2.2.2⟩, by rw [o _ (by omega)]; exact r2, by rw [o _ (by omega)]; exact r3⟩
        have kk : ∀ y, y = gz_b (gz_in (I_1 12 1) x) → (if gz_rg x 0 9 then (if h0 = W then y = -3 ∧ I_1 = I else y = gz_b (gz_in (I 12 1 ^^^ (1 <<< (x &&& 31))) x) ∧ gz_rm I I_1 nx sz ∧ I_1 12 1 = I 12 1 ^^^ (1 <<< (x &&& 31)) ∧ (∀ q, q ≠ 1 → I_1 12 q = I 12 q) ∧ ∀ p, p ≠ 18 + 2 * nx → p ≠ 18 + 2 * nx + 1 → p ≠ 16 → p ≠ 12 → I_1 p = I p) else y = -2 ∧ I_1 = I) := fun y hy => by
          rw [if_pos hr, if_neg hw]
          exact ⟨by rw [hy, k1], km, k1, fun q hq => by rw [hI_1, gw_u_s]; simp only [upd]; rw [if_neg hq, e1], fun p q1 q2 q3 q4 => by rw [o p q4]; exact r4 p q1 q2 q3⟩
        exact gs_iret (pc := 65) (gd gk_73 33 rfl) rfl (rfl) (Nat.zero_le _) (Nat.zero_le _) (⟨I_1, 0, rfl, rfl, kk 0 (by rw [gz_b_eq.mp c57]; rfl)⟩)
      · refine gs_iconst (pc := 60) (gd gk_73 30 rfl) (1) rfl ?_
        refine gs_goto (pc := 61) (gd gk_73 31 rfl) ?_
        -- end 2: ireturn 1, pc 65, locals [(0, .ref (3)), (1, .int (x))]
        have hr : gz_rg x 0 9 = true := gz_b_ne.mp c4
        have hw : ¬ h0 = W := fun e => c14 (hl.mpr e)
        have e1 : I_r 12 = I 12 := r4 12 (by omega) (by omega) (by omega)
        have k1 : I_1 12 1 = I 12 1 ^^^ (1 <<< (x &&& 31)) := by rw [hI_1, gw_u_s]; simp only [upd, if_true]; rw [e1]
        have o : ∀ p, p ≠ 12 → I_1 p = I_r p := fun p hp => by rw [hI_1, gw_u_o hp]
        have km : gz_rm I I_1 nx sz := ⟨⟨fun c hc => by rw [o _ (by omega)]; exact r1.1 c hc, by rw [o _ (by omega)]; exact r1.2.1, by rw [o _ (by omega)]; exact r1.2.2.1, by rw [o _ (by omega)]; exact r1.2.2.2⟩, by rw [o _ (by omega)]; exact r2, by rw [o _ (by omega)]; exact r3⟩
        have kk : ∀ y, y = gz_b (gz_in (I_1 12 1) x) → (if gz_rg x 0 9 then (if h0 = W then y = -3 ∧ I_1 = I else y = gz_b (gz_in (I 12 1 ^^^ (1 <<< (x &&& 31))) x) ∧ gz_rm I I_1 nx sz ∧ I_1 12 1 = I 12 1 ^^^ (1 <<< (x &&& 31)) ∧ (∀ q, q ≠ 1 → I_1 12 q = I 12 q) ∧ ∀ p, p ≠ 18 + 2 * nx → p ≠ 18 + 2 * nx + 1 → p ≠ 16 → p ≠ 12 → I_1 p = I p) else y = -2 ∧ I_1 = I) := fun y hy => by
          rw [if_pos hr, if_neg hw]
          exact ⟨by rw [hy, k1], km, k1, fun q hq => by rw [hI_1, gw_u_s]; simp only [upd]; rw [if_neg hq, e1], fun p q1 q2 q3 q4 => by rw [o p q4]; exact r4 p q1 q2 q3⟩
        exact gs_iret (pc := 65) (gd gk_73 33 rfl) rfl (rfl) (Nat.zero_le _) (Nat.zero_le _) (⟨I_1, 1, rfl, rfl, kk 1 (by rw [gz_b_ne.mp c57]; rfl)⟩)
    · refine gs_bipush (pc := 17) (gd gk_73 8 rfl) (-3) rfl ?_
      -- end 3: ireturn (-3), pc 19, locals [(0, .ref (3)), (1, .int (x))]
      have hr : gz_rg x 0 9 = true := gz_b_ne.mp c4
      exact gs_iret (pc := 19) (gd gk_73 9 rfl) rfl (rfl) (Nat.zero_le _) (Nat.zero_le _) (⟨I, -3, rfl, rfl, by rw [if_pos hr, if_pos (hl.mp c14)]; exact ⟨rfl, rfl⟩⟩)
  · refine gs_bipush (pc := 7) (gd gk_73 3 rfl) (-2) rfl ?_
    -- end 4: ireturn (-2), pc 9, locals [(0, .ref (3)), (1, .int (x))]
    have hr : ¬ gz_rg x 0 9 = true := by rw [gz_b_eq.mp c4]; decide
    exact gs_iret (pc := 9) (gd gk_73 4 rfl) rfl (rfl) (Nat.zero_le _) (Nat.zero_le _) (⟨I, -2, rfl, rfl, by rw [if_neg hr]; exact ⟨rfl, rfl⟩⟩)
theorem m_chimney (x : Int32) (nx sz : Nat) (h1 : I 126 20 = Int32.ofNat nx) (h2 : nx < 14) (h3 : I 126 19 = Int32.ofNat sz) (h4 : sz ≤ 14) (a : I 126 3 = Int32.ofNat W) (b : I 133 12 = Int32.ofNat h0) (hW : h0 ≤ W) (h8 : W ≤ 8) : gw_E V 132 (0, [(0, .ref 126), (1, .int x)], [], gS n I J, 0, 0) (fun v w' => ∃ I2 y, w' = gS n I2 J ∧ v = some (.int y) ∧ if gz_rg x 0 9 then (if h0 = W then y = -3 ∧ I2 = I else y = gz_b (gz_in (I 133 10 ^^^ (1 <<< (x &&& 31))) x) ∧ gm_rm I I2 nx sz ∧ I2 133 10 = I 133 10 ^^^ (1 <<< (x &&& 31)) ∧ (∀ q, q ≠ 10 → I2 133 q = I 133 q) ∧ (∀ q, q ≠ 19 → q ≠ 20 → I2 126 q = I 126 q) ∧ ∀ p, p ≠ 126 → p ≠ 136 → p ≠ 133 → I2 p = I p) else y = -2 ∧ I2 = I) := by
  refine gs_iload_n (pc := 0) (gd gk_132 0 rfl) rfl ?_
  refine gs_i2l (pc := 1) (gd gk_132 1 rfl) ?_
  refine gs_lconst (pc := 2) (gd gk_132 2 rfl) (0) rfl ?_
  refine gs_ldc2_w (pc := 3) (gd gk_132 3 rfl) (9) rfl ?_
  refine gs_callS (as := [.long ((x : Int32).toInt64), .long (0), .long (9)]) (pc := 6) (gd gk_132 4 rfl) (by decide) rfl rfl (Nat.le_of_ble_eq_true rfl) gq_132_107 (Nat.le_of_ble_eq_true rfl) (c_mrg (x) (0) (9)) (fun r_6 w_6 q_6 => ?_)
  obtain ⟨rfl, rfl⟩ := q_6
  refine gs_if_ne (pc := 9) (gd gk_132 5 rfl) (fun c9 => ?_) (fun c9 => ?_)
  · refine gs_aload_n (pc := 15) (gd gk_132 8 rfl) rfl ?_
    refine gs_getR (r := 133) (pc := 16) (gd gk_132 9 rfl) rfl rfl rfl (by decide) ?_
    refine gs_bipush (pc := 19) (gd gk_132 10 rfl) (12) rfl ?_
    refine gs_ialoadK (12) (52) (pc := 21) (gd gk_132 11 rfl) (Or.inl rfl) rfl (by decide) (by first | rfl | (simp only [Int32.ofNat_add, Int32.ofNat_mul]; rfl) | (simp only [Int32.ofNat_add, Int32.ofNat_mul])) (by omega) ?_
    refine gs_as (Int32.ofNat h0) (b) ?_
    refine gs_aload_n (pc := 22) (gd gk_132 12 rfl) rfl ?_
    refine gs_getI (pc := 23) (gd gk_132 13 rfl) rfl rfl ?_
    refine gs_as (Int32.ofNat W) (a) ?_
    refine gs_icmp_ne (pc := 26) (gd gk_132 14 rfl) (fun c26 => ?_) (fun c26 => ?_)
    · replace c26 : ¬ (h0 = W) := fun q9 => c26 ((zeq (k := h0) (m := W) (by omega) (by omega)).mpr q9)
      refine gs_aload_n (pc := 32) (gd gk_132 17 rfl) rfl ?_
      refine gs_callV (as := []) (pc := 33) (gd gk_132 18 rfl) (by decide) rfl (by decide) rfl rfl (Nat.le_of_ble_eq_true rfl) gq_132_130 (Nat.le_of_ble_eq_true rfl) (m_keepAct nx sz h1 h2 h3 h4) (fun r_33 w_33 q_33 => ?_)
      obtain ⟨rfl, I_r, rfl, r1, r2, r3, r4, r5, r6⟩ := q_33
      refine gs_aload_n (pc := 36) (gd gk_132 19 rfl) rfl ?_
      refine gs_getR (r := 133) (pc := 37) (gd gk_132 20 rfl) rfl rfl rfl (by decide) ?_
      refine gs_bipush (pc := 40) (gd gk_132 21 rfl) (10) rfl ?_
      refine gs_dup2 (pc := 42) (gd gk_132 22 rfl) rfl rfl ?_
      refine gs_ialoadK (10) (52) (pc := 43) (gd gk_132 23 rfl) (Or.inl rfl) rfl (by decide) (by first | rfl | (simp only [Int32.ofNat_add, Int32.ofNat_mul]; rfl) | (simp only [Int32.ofNat_add, Int32.ofNat_mul])) (by omega) ?_
      refine gs_iconst (pc := 44) (gd gk_132 24 rfl) (1) rfl ?_
      refine gs_iload_n (pc := 45) (gd gk_132 25 rfl) rfl ?_
      refine gs_ishl (pc := 46) (gd gk_132 26 rfl) ?_
      refine gs_ixor (pc := 47) (gd gk_132 27 rfl) ?_
      refine gs_iastoreK (10) (52) gs_sl (pc := 48) (gd gk_132 28 rfl) rfl rfl (by decide) (by first | rfl | (simp only [Int32.ofNat_add, Int32.ofNat_mul]; rfl) | (simp only [Int32.ofNat_add, Int32.ofNat_mul])) (by omega) (fun I_1 hI_1 => ?_)
      refine gs_aload_n (pc := 49) (gd gk_132 29 rfl) rfl ?_
      refine gs_getR (r := 133) (pc := 50) (gd gk_132 30 rfl) rfl rfl rfl (by decide) ?_
      refine gs_bipush (pc := 53) (gd gk_132 31 rfl) (10) rfl ?_
      refine gs_ialoadK (10) (52) (pc := 55) (gd gk_132 32 rfl) (Or.inl rfl) rfl (by decide) (by first | rfl | (simp only [Int32.ofNat_add, Int32.ofNat_mul]; rfl) | (simp only [Int32.ofNat_add, Int32.ofNat_mul])) (by omega) ?_
      refine gs_iload_n (pc := 56) (gd gk_132 33 rfl) rfl ?_
      refine gs_ishr (pc := 57) (gd gk_132 34 rfl) ?_
      refine gs_iconst (pc := 58) (gd gk_132 35 rfl) (1) rfl ?_
      refine gs_iand (pc := 59) (gd gk_132 36 rfl) ?_
      -- end 1: ireturn (((I_1 133 10) >>> (x &&& 31)) &&& 1), pc 60, locals [(0, .ref (126)), (1, .int (x))]
      have hr : gz_rg x 0 9 = true := gz_b_ne.mp c9
      have e1 : I_r 133 = I 133 := r6 133 (by omega) (by omega)
      have k1 : I_1 133 10 = I 133 10 ^^^ (1 <<< (x &&& 31)) := by rw [hI_1, gw_u_s]; simp only [upd, if_true]; rw [e1]
      have o : ∀ p, p ≠ 133 → I_1 p = I_r p := fun p hp => by rw [hI_1, gw_u_o hp]
      exact gs_iret (pc := 60) (gd gk_132 37 rfl) rfl (rfl) (Nat.zero_le _) (Nat.zero_le _) (⟨I_1, _, rfl, rfl, by
        rw [if_pos hr, if_neg c26]
        exact ⟨by rw [gz_and1, k1], ⟨by rw [o 136 (by omega)]; exact r1, by rw [o 136 (by omega)]; exact r2, by rw [o 126 (by omega)]; exact r3, by rw [o 126 (by omega)]; exact r4⟩, k1, fun q hq => by rw [hI_1, gw_u_s]; simp only [upd]; rw [if_neg hq, e1], fun q q1 q2 => by rw [o 126 (by omega)]; exact r5 q q1 q2, fun p q1 q2 q3 => by rw [o p q3]; exact r6 p q1 q2⟩⟩)
    · replace c26 : h0 = W := (zeq (k := h0) (m := W) (by omega) (by omega)).mp c26
      refine gs_bipush (pc := 29) (gd gk_132 15 rfl) (-3) rfl ?_
      -- end 2: ireturn (-3), pc 31, locals [(0, .ref (126)), (1, .int (x))]
      have hr : gz_rg x 0 9 = true := gz_b_ne.mp c9
      exact gs_iret (pc := 31) (gd gk_132 16 rfl) rfl (rfl) (Nat.zero_le _) (Nat.zero_le _) (⟨I, -3, rfl, rfl, by rw [if_pos hr, if_pos c26]; exact ⟨rfl, rfl⟩⟩)
  · refine gs_bipush (pc := 12) (gd gk_132 6 rfl) (-2) rfl ?_
    -- end 3: ireturn (-2), pc 14, locals [(0, .ref (126)), (1, .int (x))]
    have hr : ¬ gz_rg x 0 9 = true := by rw [gz_b_eq.mp c9]; decide
    exact gs_iret (pc := 14) (gd gk_132 7 rfl) rfl (rfl) (Nat.zero_le _) (Nat.zero_le _) (⟨I, -2, rfl, rfl, by rw [if_neg hr]; exact ⟨rfl, rfl⟩⟩)
theorem c_undo (nx sz : Nat) (h1 : I 16 1 = Int32.ofNat nx) (h2 : nx < 14) (h3 : I 16 2 = Int32.ofNat sz) (h4 : sz ≤ 14) : gw_E V 74 (0, [(0, .ref 3)], [], gS n I J, 0, 0) (fun v w' => ∃ I2 y, w' = gS n I2 J ∧ v = some (.int y) ∧ (sz = 0 → y = -3 ∧ I2 = I) ∧ (0 < sz → y = Int32.ofNat (sz - 1) ∧ gz_mm I2 12 I (18 + 2 * ((nx + 13) % 14)) ∧ I2 16 1 = Int32.ofNat ((nx + 13) % 14) ∧ I2 16 2 = Int32.ofNat (sz - 1) ∧ ∀ p, p ≠ 12 → p ≠ 13 → p ≠ 16 → I2 p = I p)) := by
  refine gs_aload_n (pc := 0) (gd gk_74 0 rfl) rfl ?_
  refine gs_getR (r := 16) (pc := 1) (gd gk_74 1 rfl) rfl rfl rfl (by decide) ?_
  refine gs_aload_n (pc := 4) (gd gk_74 2 rfl) rfl ?_
  refine gs_getR (r := 12) (pc := 5) (gd gk_74 3 rfl) rfl rfl rfl (by decide) ?_
  refine gs_callV (as := [.ref (12)]) (pc := 8) (gd gk_74 4 rfl) (by decide) rfl (by decide) rfl rfl (Nat.le_of_ble_eq_true rfl) gq_74_3 (Nat.le_of_ble_eq_true rfl) (c_takeBack nx sz h1 h2 h3 h4) (fun r_8 w_8 q_8 => ?_)
  obtain ⟨I_r, rfl, rfl, r1, r2⟩ := q_8
  refine gs_if_eq (pc := 11) (gd gk_74 5 rfl) (fun c11 => ?_) (fun c11 => ?_)
  · refine gs_bipush (pc := 24) (gd gk_74 10 rfl) (-3) rfl ?_
    -- end 1: ireturn (-3), pc 26, locals [(0, .ref (3))]
    have hz : sz = 0 := by have := of_decide_eq_false (gz_b_eq.mp c11); omega
    exact gs_iret (pc := 26) (gd gk_74 11 rfl) rfl (rfl) (Nat.zero_le _) (Nat.zero_le _) (⟨I_r, -3, rfl, rfl, fun e => ⟨rfl, r1 e⟩, fun e => absurd e (by omega)⟩)
  · refine gs_aload_n (pc := 14) (gd gk_74 6 rfl) rfl ?_
    refine gs_getR (r := 16) (pc := 15) (gd gk_74 7 rfl) rfl rfl rfl (by decide) ?_
    refine gs_getI (pc := 18) (gd gk_74 8 rfl) rfl rfl ?_
    refine gs_goto (pc := 21) (gd gk_74 9 rfl) ?_
    -- end 2: ireturn (I_r 16 2), pc 26, locals [(0, .ref (3))]
    have hz := of_decide_eq_true (gz_b_ne.mp c11)
    exact gs_iret (pc := 26) (gd gk_74 11 rfl) rfl (rfl) (Nat.zero_le _) (Nat.zero_le _) (⟨I_r, _, rfl, rfl, fun e => absurd e (by omega), fun e => ⟨(r2 e).2.2.1, r2 e⟩⟩)
theorem m_undo (nx sz : Nat) (h1 : I 126 20 = Int32.ofNat nx) (h2 : nx < 14) (h3 : I 126 19 = Int32.ofNat sz) (h4 : sz ≤ 14) : gw_E V 133 (0, [(0, .ref 126)], [], gS n I J, 0, 0) (fun v w' => ∃ I2 y, w' = gS n I2 J ∧ v = some (.int y) ∧ (sz = 0 → y = -3 ∧ I2 = I) ∧ (0 < sz → y = Int32.ofNat (sz - 1) ∧ (∀ c, c < 13 → I2 133 c = I 136 (13 * ((nx + 13) % 14) + c)) ∧ (∀ q, 13 ≤ q → I2 133 q = I 133 q) ∧ I2 126 20 = Int32.ofNat ((nx + 13) % 14) ∧ I2 126 19 = Int32.ofNat (sz - 1) ∧ (∀ q, q ≠ 19 → q ≠ 20 → I2 126 q = I 126 q) ∧ ∀ p, p ≠ 126 → p ≠ 133 → I2 p = I p)) := by
  have hn3 : (nx + 13) % 14 < 14 := Nat.mod_lt _ (by omega)
  generalize hny : (nx + 13) % 14 = ny at hn3
  have lp : 0 < sz → ∀ (m k : Nat), m + k = 13 → ∀ I1, (∀ c, c < k → I1 133 c = I 136 (13 * ny + c)) → (∀ q, 13 ≤ q → I1 133 q = I 133 q) → I1 126 20 = Int32.ofNat ny → I1 126 19 = Int32.ofNat (sz - 1) → (∀ q, q ≠ 19 → q ≠ 20 → I1 126 q = I 126 q) → (∀ p, p ≠ 126 → p ≠ 133 → I1 p = I p) → gw_E V 133 (36, [(0, .ref 126), (1, .int (Int32.ofNat k))], [], gS n I1 J, 0, 0) (fun v w' => ∃ I2 y, w' = gS n I2 J ∧ v = some (.int y) ∧ (sz = 0 → y = -3 ∧ I2 = I) ∧ (0 < sz → y = Int32.ofNat (sz - 1) ∧ (∀ c, c < 13 → I2 133 c = I 136 (13 * ny + c)) ∧ (∀ q, 13 ≤ q → I2 133 q = I 133 q) ∧ I2 126 20 = Int32.ofNat ny ∧ I2 126 19 = Int32.ofNat (sz - 1) ∧ (∀ q, q ≠ 19 → q ≠ 20 → I2 126 q = I 126 q) ∧ ∀ p, p ≠ 126 → p ≠ 133 → I2 p = I p)) := by
    intro hsz m
    induction m with
    | zero =>
      intro k hk I1 g1 g2 g3 g4 g5 g6
      obtain rfl : k = 13 := by omega
      refine gs_iload_n (pc := 36) (gd gk_133 21 rfl) rfl ?_
      refine gs_bipush (pc := 37) (gd gk_133 22 rfl) (13) rfl ?_
      refine gs_icmp_ge (pc := 39) (gd gk_133 23 rfl) (fun c39 => ?_) (fun c39 => ?_)
      · replace c39 : 13 ≤ 13 := (zle (k := 13) (m := 13) (by omega) (by omega)).mp c39
        refine gs_aload_n (pc := 68) (gd gk_133 39 rfl) rfl ?_
        refine gs_getI (pc := 69) (gd gk_133 40 rfl) rfl rfl ?_
        -- end 1: ireturn (I1 126 19), pc 72, locals [(0, .ref (126)), (1, .int (Int32.ofNat 13))]
        exact gs_iret (pc := 72) (gd gk_133 41 rfl) rfl (rfl) (Nat.zero_le _) (Nat.zero_le _) (⟨I1, _, rfl, rfl, fun e => absurd e (by omega), fun _ => ⟨g4, g1, g2, g3, g4, g5, g6⟩⟩)
      · replace c39 : ¬ (13 ≤ 13) := fun q9 => c39 ((zle (k := 13) (m := 13) (by omega) (by omega)).mpr q9)
        -- end 2: stop, pc 42, locals [(0, .ref (126)), (1, .int (Int32.ofNat 13))]
        exact absurd (by decide) c39
    | succ m ih =>
      intro k hk I1 g1 g2 g3 g4 g5 g6
      refine gs_iload_n (pc := 36) (gd gk_133 21 rfl) rfl ?_
      refine gs_bipush (pc := 37) (gd gk_133 22 rfl) (13) rfl ?_
      refine gs_icmp_ge (pc := 39) (gd gk_133 23 rfl) (fun c39 => ?_) (fun c39 => ?_)
      · replace c39 : 13 ≤ k := (zle (k := 13) (m := k) (by omega) (by omega)).mp c39
        refine gs_aload_n (pc := 68) (gd gk_133 39 rfl) rfl ?_
        refine gs_getI (pc := 69) (gd gk_133 40 rfl) rfl rfl ?_
        -- end 1: ireturn (I1 126 19), pc 72, locals [(0, .ref (126)), (1, .int (Int32.ofNat k))]
        exact absurd c39 (by omega)
      · replace c39 : ¬ (13 ≤ k) := fun q9 => c39 ((zle (k := 13) (m := k) (by omega) (by omega)).mpr q9)
        refine gs_aload_n (pc := 42) (gd gk_133 24 rfl) rfl ?_
        refine gs_getR (r := 133) (pc := 43) (gd gk_133 25 rfl) rfl rfl rfl (by decide) ?_
        refine gs_iload_n (pc := 46) (gd gk_133 26 rfl) rfl ?_
        refine gs_aload_n (pc := 47) (gd gk_133 27 rfl) rfl ?_
        refine gs_getR (r := 136) (pc := 48) (gd gk_133 28 rfl) rfl rfl rfl (by decide) ?_
        refine gs_bipush (pc := 51) (gd gk_133 29 rfl) (13) rfl ?_
        refine gs_aload_n (pc := 53) (gd gk_133 30 rfl) rfl ?_
        refine gs_getI (pc := 54) (gd gk_133 31 rfl) rfl rfl ?_
        refine gs_as (Int32.ofNat ny) (g3) ?_
        refine gs_imul (pc := 57) (gd gk_133 32 rfl) ?_
        refine gs_iload_n (pc := 58) (gd gk_133 33 rfl) rfl ?_
        refine gs_iadd (pc := 59) (gd gk_133 34 rfl) ?_
        refine gs_ialoadK (((13 * ny) + k)) (182) (pc := 60) (gd gk_133 35 rfl) (Or.inl rfl) rfl (by decide) (by first | rfl | (simp only [Int32.ofNat_add, Int32.ofNat_mul]; rfl) | (simp only [Int32.ofNat_add, Int32.ofNat_mul])) (by omega) ?_
        refine gs_iastoreK (k) (52) gs_sl (pc := 61) (gd gk_133 36 rfl) rfl rfl (by decide) (by first | rfl | (simp only [Int32.ofNat_add, Int32.ofNat_mul]; rfl) | (simp only [Int32.ofNat_add, Int32.ofNat_mul])) (by omega) (fun I_1 hI_1 => ?_)
        refine gs_iinc (ls2 := fun v => [(0, .ref (126)), (1, .int (v))]) (pc := 62) (gd gk_133 37 rfl) rfl (by rw [gL_133]; decide) (fun _ => rfl) (1) rfl (fun v1_1 hv1_1 => ?_)
        obtain rfl : v1_1 = Int32.ofNat (k + 1) := hv1_1.trans (by first | rfl | (simp only [Int32.ofNat_add, Int32.ofNat_mul]; rfl) | (simp only [Int32.ofNat_add, Int32.ofNat_mul]))
        refine gs_goto (pc := 65) (gd gk_133 38 rfl) ?_
        -- end 2: stop, pc 36, locals [(0, .ref (126)), (1, .int (Int32.ofNat (k + 1)))]
        refine ih (k + 1) (by omega) I_1 (fun c hc => ?_) (fun q hq => ?_) ?_ ?_ (fun q q1 q2 => ?_) (fun p q1 q2 => ?_)
        · rw [hI_1, gw_u_s]
          simp only [upd]
          by_cases e : c = k
          · subst e; rw [if_pos rfl, g6 136 (by omega) (by omega)]
          · rw [if_neg e]; exact g1 c (by omega)
        · rw [hI_1, gw_u_s]; simp only [upd]; rw [if_neg (by omega)]; exact g2 q hq
        · rw [hI_1, gw_u_o (by omega)]; exact g3
        · rw [hI_1, gw_u_o (by omega)]; exact g4
        · rw [hI_1, gw_u_o (by omega)]; exact g5 q q1 q2
        · rw [hI_1, gw_u_o q2]; exact g6 p q1 q2
  refine gs_aload_n (pc := 0) (gd gk_133 0 rfl) rfl ?_
  refine gs_getI (pc := 1) (gd gk_133 1 rfl) rfl rfl ?_
  refine gs_as (Int32.ofNat sz) (h3) ?_
  refine gs_if_ne (pc := 4) (gd gk_133 2 rfl) (fun c4 => ?_) (fun c4 => ?_)
  · replace c4 : ¬ (sz = 0) := fun q9 => c4 ((zeq (k := sz) (m := 0) (by omega) (by omega)).mpr q9)
    refine gs_aload_n (pc := 10) (gd gk_133 5 rfl) rfl ?_
    refine gs_dup (pc := 11) (gd gk_133 6 rfl) rfl ?_
    refine gs_getI (pc := 12) (gd gk_133 7 rfl) rfl rfl ?_
    refine gs_as (Int32.ofNat sz) (h3) ?_
    refine gs_iconst (pc := 15) (gd gk_133 8 rfl) (1) rfl ?_
    refine gs_isub (pc := 16) (gd gk_133 9 rfl) ?_
    refine gs_putI (pc := 17) (gd gk_133 10 rfl) rfl rfl rfl rfl (fun I_1 hI_1 => ?_)
    refine gs_aload_n (pc := 20) (gd gk_133 11 rfl) rfl ?_
    refine gs_aload_n (pc := 21) (gd gk_133 12 rfl) rfl ?_
    refine gs_getI (pc := 22) (gd gk_133 13 rfl) rfl rfl ?_
    refine gs_as (Int32.ofNat nx) (by rw [hI_1, gw_u_s]; simp [upd]; exact h1) ?_
    refine gs_bipush (pc := 25) (gd gk_133 14 rfl) (13) rfl ?_
    refine gs_iadd (pc := 27) (gd gk_133 15 rfl) ?_
    refine gs_bipush (pc := 28) (gd gk_133 16 rfl) (14) rfl ?_
    refine gs_irem (pc := 30) (gd gk_133 17 rfl) (by decide) ?_
    refine gs_putI (pc := 31) (gd gk_133 18 rfl) rfl rfl rfl rfl (fun I_2 hI_2 => ?_)
    refine gs_iconst (pc := 34) (gd gk_133 19 rfl) (0) rfl ?_
    refine gs_istore_n (ls2 := fun v => [(0, .ref (126)), (1, .int (v))]) (pc := 35) (gd gk_133 20 rfl) (by rw [gL_133]; decide) (fun _ => rfl) (fun v1_1 hv1_1 => ?_)
    obtain rfl : v1_1 = Int32.ofNat 0 := hv1_1.trans (by first | rfl | (simp only [Int32.ofNat_add, Int32.ofNat_mul]; rfl) | (simp only [Int32.ofNat_add, Int32.ofNat_mul]))
    -- end 1: stop, pc 36, locals [(0, .ref (126)), (1, .int (Int32.ofNat 0))]
    have hp : 0 < sz := by omega
    have a1 : I_2 126 20 = Int32.ofNat ny := by rw [hI_2, gw_u_s]; simp only [upd, if_true]; rw [gz_r13m nx h2, hny]
    have a2 : I_2 126 19 = Int32.ofNat (sz - 1) := by rw [hI_2, gw_u_s]; simp only [upd]; rw [if_neg (by omega), hI_1, gw_u_s]; simp only [upd, if_true]; obtain ⟨z, rfl⟩ : ∃ z, sz = z + 1 := ⟨sz - 1, by omega⟩; rw [zsucc]; simp
    have o : ∀ p, p ≠ 126 → I_2 p = I p := fun p hp => by rw [hI_2, gw_u_o hp, hI_1, gw_u_o hp]
    refine lp hp 13 0 rfl I_2 (fun c hc => absurd hc (Nat.not_lt_zero _)) (fun q _ => by rw [o 133 (by omega)]) a1 a2 (fun q q1 q2 => ?_) (fun p q1 _ => o p q1)
    rw [hI_2, gw_u_s]; simp only [upd]; rw [if_neg q2, hI_1, gw_u_s]; simp only [upd]; rw [if_neg q1]
  · replace c4 : sz = 0 := (zeq (k := sz) (m := 0) (by omega) (by omega)).mp c4
    refine gs_bipush (pc := 7) (gd gk_133 3 rfl) (-3) rfl ?_
    -- end 2: ireturn (-3), pc 9, locals [(0, .ref (126))]
    exact gs_iret (pc := 9) (gd gk_133 4 rfl) rfl (rfl) (Nat.zero_le _) (Nat.zero_le _) (⟨I, -3, rfl, rfl, fun _ => ⟨rfl, rfl⟩, fun e => absurd e (by omega)⟩)
end
