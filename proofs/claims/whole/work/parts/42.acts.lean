/-! ===== acts: remember, takeBack; keepAct ===== -/
section
variable {V : gw_V} {n W N h0 L bc : Nat} {I : Nat → Nat → Int32} {J : Nat → Nat → Int64}
/-- the morning at a of one world is that at b of another -/
def gz_mm (I2 : Nat → Nat → Int32) (a : Nat) (I : Nat → Nat → Int32) (b : Nat) : Prop := (∀ c, c < 10 → I2 (a + 1) c = I (b + 1) c) ∧ I2 a 1 = I b 1 ∧ I2 a 2 = I b 2 ∧ I2 a 3 = I b 3
theorem gz_r14 : ∀ k, k < 14 → (Int32.ofNat k + 1) - (Int32.ofNat k + 1) / 14 * 14 = Int32.ofNat ((k + 1) % 14) := by decide +kernel
theorem gz_r13 : ∀ k, k < 14 → ((Int32.ofNat k + 14) - 1) - ((Int32.ofNat k + 14) - 1) / 14 * 14 = Int32.ofNat ((k + 13) % 14) := by decide +kernel
theorem gz_r13m : ∀ k, k < 14 → (Int32.ofNat k + 13) - (Int32.ofNat k + 13) / 14 * 14 = Int32.ofNat ((k + 13) % 14) := by decide +kernel
theorem gz_min14 : ∀ k, k < 15 → (if (14 : Int32) < Int32.ofNat k + 1 then 14 else Int32.ofNat k + 1) = Int32.ofNat (min (k + 1) 14) := by decide +kernel
theorem c_remember (nx sz : Nat) (h1 : I 16 1 = Int32.ofNat nx) (h2 : nx < 14) (h3 : I 16 2 = Int32.ofNat sz) (h4 : sz ≤ 14) : gw_E V 2 (0, [(0, .ref 16), (1, .ref 12)], [], gS n I J, 0, 0) (fun v w' => v = none ∧ ∃ I2, w' = gS n I2 J ∧ gz_mm I2 (18 + 2 * nx) I 12 ∧ I2 16 1 = Int32.ofNat ((nx + 1) % 14) ∧ I2 16 2 = Int32.ofNat (min (sz + 1) 14) ∧ ∀ p, p ≠ 18 + 2 * nx → p ≠ 18 + 2 * nx + 1 → p ≠ 16 → I2 p = I p) := by
  refine gs_aload_n (pc := 0) (gd gk_2 0 rfl) rfl ?_
  refine gs_getR (r := 17) (pc := 1) (gd gk_2 1 rfl) rfl rfl rfl (by decide) ?_
  refine gs_aload_n (pc := 4) (gd gk_2 2 rfl) rfl ?_
  refine gs_getI (pc := 5) (gd gk_2 3 rfl) rfl rfl ?_
  refine gs_as (Int32.ofNat nx) (h1) ?_
  refine gs_aaloadK (r := 18 + 2 * nx) (nx) (14) (pc := 8) (gd gk_2 4 rfl) (Or.inl rfl) rfl (by decide) (by first | rfl | (simp only [Int32.ofNat_add, Int32.ofNat_mul]; rfl) | (simp only [Int32.ofNat_add, Int32.ofNat_mul])) (by omega) rfl (by omega) ?_
  refine gs_aload_n (pc := 9) (gd gk_2 5 rfl) rfl ?_
  refine gs_callV (as := [.ref (12)]) (pc := 10) (gd gk_2 6 rfl) (by decide) rfl (by decide) (gz_mo_a nx h2 n I J).1 rfl (Nat.le_of_ble_eq_true rfl) gq_2_15 (Nat.le_of_ble_eq_true rfl) (c_copy (18 + 2 * nx) 12 (gz_mo_a nx h2) gz_mo_12 (by omega) (by omega) (by omega)) (fun r_10 w_10 q_10 => ?_)
  obtain ⟨rfl, I_c, rfl, d2, d3, d4, d5, d6⟩ := q_10
  refine gs_aload_n (pc := 13) (gd gk_2 7 rfl) rfl ?_
  refine gs_aload_n (pc := 14) (gd gk_2 8 rfl) rfl ?_
  refine gs_getI (pc := 15) (gd gk_2 9 rfl) rfl rfl ?_
  refine gs_iconst (pc := 18) (gd gk_2 10 rfl) (1) rfl ?_
  refine gs_iadd (pc := 19) (gd gk_2 11 rfl) ?_
  refine gs_bipush (pc := 20) (gd gk_2 12 rfl) (14) rfl ?_
  refine gs_irem (pc := 22) (gd gk_2 13 rfl) (by decide) ?_
  refine gs_putI (pc := 23) (gd gk_2 14 rfl) rfl rfl rfl rfl (fun I_1 hI_1 => ?_)
  refine gs_aload_n (pc := 26) (gd gk_2 15 rfl) rfl ?_
  refine gs_aload_n (pc := 27) (gd gk_2 16 rfl) rfl ?_
  refine gs_getI (pc := 28) (gd gk_2 17 rfl) rfl rfl ?_
  refine gs_iconst (pc := 31) (gd gk_2 18 rfl) (1) rfl ?_
  refine gs_iadd (pc := 32) (gd gk_2 19 rfl) ?_
  refine gs_bipush (pc := 33) (gd gk_2 20 rfl) (14) rfl ?_
  refine gs_mmin (pc := 35) (gd gk_2 21 rfl) (by decide) (by decide) (Nat.zero_le _) (Nat.zero_le _) (Nat.le_of_ble_eq_true rfl) ?_
  refine gs_putI (pc := 38) (gd gk_2 22 rfl) rfl rfl rfl rfl (fun I_2 hI_2 => ?_)
  -- end 1: return, pc 41, locals [(0, .ref (16)), (1, .ref (12))]
  have e1 : I_c 16 1 = Int32.ofNat nx := by rw [d6 16 (by omega) (by omega)]; exact h1
  have e2 : I_c 16 2 = Int32.ofNat sz := by rw [d6 16 (by omega) (by omega)]; exact h3
  have f2 : I_1 16 2 = Int32.ofNat sz := by rw [hI_1, gw_u_s]; simp [upd]; exact e2
  have o : ∀ p, p ≠ 16 → I_2 p = I_c p := fun p hp => by rw [hI_2, gw_u_o hp, hI_1, gw_u_o hp]
  have a1 : I_2 16 1 = Int32.ofNat ((nx + 1) % 14) := by rw [hI_2, gw_u_s]; simp only [upd]; rw [if_neg (by omega), hI_1, gw_u_s]; simp only [upd, if_true]; rw [e1]; exact gz_r14 nx h2
  have a2 : I_2 16 2 = Int32.ofNat (min (sz + 1) 14) := by rw [hI_2, gw_u_s]; simp only [upd, if_true]; rw [f2]; exact gz_min14 sz (by omega)
  exact gs_ret (pc := 41) (gd gk_2 23 rfl) rfl (Nat.zero_le _) (Nat.zero_le _) (⟨rfl, I_2, rfl, ⟨fun c hc => by rw [o _ (by omega)]; exact d2 c hc, by rw [o _ (by omega)]; exact d3, by rw [o _ (by omega)]; exact d4, by rw [o _ (by omega)]; exact d5⟩, a1, a2, fun p q1 q2 q3 => by rw [o p q3]; exact d6 p q1 q2⟩)
theorem c_takeBack (nx sz : Nat) (h1 : I 16 1 = Int32.ofNat nx) (h2 : nx < 14) (h3 : I 16 2 = Int32.ofNat sz) (h4 : sz ≤ 14) : gw_E V 3 (0, [(0, .ref 16), (1, .ref 12)], [], gS n I J, 0, 0) (fun v w' => ∃ I2, w' = gS n I2 J ∧ v = some (.int (gz_b (decide (0 < sz)))) ∧ (sz = 0 → I2 = I) ∧ (0 < sz → gz_mm I2 12 I (18 + 2 * ((nx + 13) % 14)) ∧ I2 16 1 = Int32.ofNat ((nx + 13) % 14) ∧ I2 16 2 = Int32.ofNat (sz - 1) ∧ ∀ p, p ≠ 12 → p ≠ 13 → p ≠ 16 → I2 p = I p)) := by
  refine gs_aload_n (pc := 0) (gd gk_3 0 rfl) rfl ?_
  refine gs_getI (pc := 1) (gd gk_3 1 rfl) rfl rfl ?_
  refine gs_as (Int32.ofNat sz) (h3) ?_
  refine gs_if_ne (pc := 4) (gd gk_3 2 rfl) (fun c4 => ?_) (fun c4 => ?_)
  · replace c4 : ¬ (sz = 0) := fun q9 => c4 ((zeq (k := sz) (m := 0) (by omega) (by omega)).mpr q9)
    refine gs_aload_n (pc := 9) (gd gk_3 5 rfl) rfl ?_
    refine gs_aload_n (pc := 10) (gd gk_3 6 rfl) rfl ?_
    refine gs_getI (pc := 11) (gd gk_3 7 rfl) rfl rfl ?_
    refine gs_as (Int32.ofNat nx) (h1) ?_
    refine gs_bipush (pc := 14) (gd gk_3 8 rfl) (14) rfl ?_
    refine gs_iadd (pc := 16) (gd gk_3 9 rfl) ?_
    refine gs_iconst (pc := 17) (gd gk_3 10 rfl) (1) rfl ?_
    refine gs_isub (pc := 18) (gd gk_3 11 rfl) ?_
    refine gs_bipush (pc := 19) (gd gk_3 12 rfl) (14) rfl ?_
    refine gs_irem (pc := 21) (gd gk_3 13 rfl) (by decide) ?_
    refine gs_putI (pc := 22) (gd gk_3 14 rfl) rfl rfl rfl rfl (fun I_1 hI_1 => ?_)
    refine gs_aload_n (pc := 25) (gd gk_3 15 rfl) rfl ?_
    refine gs_aload_n (pc := 26) (gd gk_3 16 rfl) rfl ?_
    refine gs_getR (r := 17) (pc := 27) (gd gk_3 17 rfl) rfl rfl rfl (by decide) ?_
    refine gs_aload_n (pc := 30) (gd gk_3 18 rfl) rfl ?_
    refine gs_getI (pc := 31) (gd gk_3 19 rfl) rfl rfl ?_
    refine gs_as (Int32.ofNat ((nx + 13) % 14)) (by rw [hI_1, gw_u_s]; simp only [upd, if_true]; exact gz_r13 nx h2) ?_
    refine gs_aaloadK (r := 18 + 2 * ((nx + 13) % 14)) (((nx + 13) % 14)) (14) (pc := 34) (gd gk_3 20 rfl) (Or.inl rfl) rfl (by decide) (by first | rfl | (simp only [Int32.ofNat_add, Int32.ofNat_mul]; rfl) | (simp only [Int32.ofNat_add, Int32.ofNat_mul])) (by omega) rfl (by omega) ?_
    refine gs_callV (as := [.ref (18 + 2 * ((nx + 13) % 14))]) (pc := 35) (gd gk_3 21 rfl) (by decide) rfl (by decide) rfl rfl (Nat.le_of_ble_eq_true rfl) gq_3_15 (Nat.le_of_ble_eq_true rfl) (c_copy 12 (18 + 2 * ((nx + 13) % 14)) gz_mo_12 (gz_mo_a _ (by omega)) (by omega) (by omega) (by omega)) (fun r_35 w_35 q_35 => ?_)
    obtain ⟨rfl, I_c, rfl, d2, d3, d4, d5, d6⟩ := q_35
    refine gs_aload_n (pc := 38) (gd gk_3 22 rfl) rfl ?_
    refine gs_dup (pc := 39) (gd gk_3 23 rfl) rfl ?_
    refine gs_getI (pc := 40) (gd gk_3 24 rfl) rfl rfl ?_
    refine gs_iconst (pc := 43) (gd gk_3 25 rfl) (1) rfl ?_
    refine gs_isub (pc := 44) (gd gk_3 26 rfl) ?_
    refine gs_putI (pc := 45) (gd gk_3 27 rfl) rfl rfl rfl rfl (fun I_2 hI_2 => ?_)
    refine gs_iconst (pc := 48) (gd gk_3 28 rfl) (1) rfl ?_
    -- end 1: ireturn 1, pc 49, locals [(0, .ref (16)), (1, .ref (12))]
    have hp : 0 < sz := by omega
    have o1 : ∀ p, p ≠ 16 → I_1 p = I p := fun p hp => by rw [hI_1, gw_u_o hp]
    have o2 : ∀ p, p ≠ 16 → I_2 p = I_c p := fun p hp => by rw [hI_2, gw_u_o hp]
    have e1 : I_c 16 = I_1 16 := d6 16 (by omega) (by omega)
    have f1 : I_1 16 1 = Int32.ofNat ((nx + 13) % 14) := by rw [hI_1, gw_u_s]; simp only [upd, if_true]; exact gz_r13 nx h2
    have f2 : I_1 16 2 = Int32.ofNat sz := by rw [hI_1, gw_u_s]; simp [upd]; exact h3
    have a1 : I_2 16 1 = Int32.ofNat ((nx + 13) % 14) := by rw [hI_2, gw_u_s]; simp only [upd]; rw [if_neg (by omega), e1]; exact f1
    have a2 : I_2 16 2 = Int32.ofNat (sz - 1) := by rw [hI_2, gw_u_s]; simp only [upd, if_true]; rw [e1, f2]; obtain ⟨z, rfl⟩ : ∃ z, sz = z + 1 := ⟨sz - 1, by omega⟩; rw [zsucc]; simp
    exact gs_iret (pc := 49) (gd gk_3 29 rfl) rfl (rfl) (Nat.zero_le _) (Nat.zero_le _) (⟨I_2, rfl, by rw [decide_eq_true hp]; rfl, fun e => absurd e c4, fun _ => ⟨⟨fun c hc => by rw [o2 _ (by omega), d2 c hc, o1 _ (by omega)], by rw [o2 _ (by omega), d3, o1 _ (by omega)], by rw [o2 _ (by omega), d4, o1 _ (by omega)], by rw [o2 _ (by omega), d5, o1 _ (by omega)]⟩, a1, a2, fun p q1 q2 q3 => by rw [o2 p q3, d6 p q1 q2, o1 p q3]⟩⟩)
  · replace c4 : sz = 0 := (zeq (k := sz) (m := 0) (by omega) (by omega)).mp c4
    refine gs_iconst (pc := 7) (gd gk_3 3 rfl) (0) rfl ?_
    -- end 2: ireturn 0, pc 8, locals [(0, .ref (16)), (1, .ref (12))]
    exact gs_iret (pc := 8) (gd gk_3 4 rfl) rfl (rfl) (Nat.zero_le _) (Nat.zero_le _) (⟨I, rfl, by rw [c4]; rfl, fun _ => rfl, fun e => absurd e (by omega)⟩)
theorem m_keepAct (nx sz : Nat) (h1 : I 126 20 = Int32.ofNat nx) (h2 : nx < 14) (h3 : I 126 19 = Int32.ofNat sz) (h4 : sz ≤ 14) : gw_E V 130 (0, [(0, .ref 126)], [], gS n I J, 0, 0) (fun v w' => v = none ∧ ∃ I2, w' = gS n I2 J ∧ (∀ c, c < 13 → I2 136 (13 * nx + c) = I 133 c) ∧ (∀ q, ¬ (13 * nx ≤ q ∧ q < 13 * nx + 13) → I2 136 q = I 136 q) ∧ I2 126 20 = Int32.ofNat ((nx + 1) % 14) ∧ I2 126 19 = Int32.ofNat (min (sz + 1) 14) ∧ (∀ q, q ≠ 19 → q ≠ 20 → I2 126 q = I 126 q) ∧ ∀ p, p ≠ 126 → p ≠ 136 → I2 p = I p) := by
  have lp : ∀ (m k : Nat), m + k = 13 → ∀ I1, (∀ c, c < k → I1 136 (13 * nx + c) = I 133 c) → (∀ q, ¬ (13 * nx ≤ q ∧ q < 13 * nx + 13) → I1 136 q = I 136 q) → (∀ p, p ≠ 136 → I1 p = I p) → gw_E V 130 (2, [(0, .ref 126), (1, .int (Int32.ofNat k))], [], gS n I1 J, 0, 0) (fun v w' => v = none ∧ ∃ I2, w' = gS n I2 J ∧ (∀ c, c < 13 → I2 136 (13 * nx + c) = I 133 c) ∧ (∀ q, ¬ (13 * nx ≤ q ∧ q < 13 * nx + 13) → I2 136 q = I 136 q) ∧ I2 126 20 = Int32.ofNat ((nx + 1) % 14) ∧ I2 126 19 = Int32.ofNat (min (sz + 1) 14) ∧ (∀ q, q ≠ 19 → q ≠ 20 → I2 126 q = I 126 q) ∧ ∀ p, p ≠ 126 → p ≠ 136 → I2 p = I p) := by
    intro m
    induction m with
    | zero =>
      intro k hk I1 g1 g2 g3
      obtain rfl : k = 13 := by omega
      have e20 : I1 126 20 = Int32.ofNat nx := by rw [g3 126 (by omega)]; exact h1
      have e19 : I1 126 19 = Int32.ofNat sz := by rw [g3 126 (by omega)]; exact h3
      refine gs_iload_n (pc := 2) (gd gk_130 2 rfl) rfl ?_
      refine gs_bipush (pc := 3) (gd gk_130 3 rfl) (13) rfl ?_
      refine gs_icmp_ge (pc := 5) (gd gk_130 4 rfl) (fun c5 => ?_) (fun c5 => ?_)
      · replace c5 : 13 ≤ 13 := (zle (k := 13) (m := 13) (by omega) (by omega)).mp c5
        refine gs_aload_n (pc := 34) (gd gk_130 20 rfl) rfl ?_
        refine gs_aload_n (pc := 35) (gd gk_130 21 rfl) rfl ?_
        refine gs_getI (pc := 36) (gd gk_130 22 rfl) rfl rfl ?_
        refine gs_as (Int32.ofNat nx) (e20) ?_
        refine gs_iconst (pc := 39) (gd gk_130 23 rfl) (1) rfl ?_
        refine gs_iadd (pc := 40) (gd gk_130 24 rfl) ?_
        refine gs_bipush (pc := 41) (gd gk_130 25 rfl) (14) rfl ?_
        refine gs_irem (pc := 43) (gd gk_130 26 rfl) (by decide) ?_
        refine gs_putI (pc := 44) (gd gk_130 27 rfl) rfl rfl rfl rfl (fun I_1 hI_1 => ?_)
        refine gs_aload_n (pc := 47) (gd gk_130 28 rfl) rfl ?_
        refine gs_aload_n (pc := 48) (gd gk_130 29 rfl) rfl ?_
        refine gs_getI (pc := 49) (gd gk_130 30 rfl) rfl rfl ?_
        refine gs_bipush (pc := 52) (gd gk_130 31 rfl) (14) rfl ?_
        refine gs_icmp_ge (pc := 54) (gd gk_130 32 rfl) (fun c54 => ?_) (fun c54 => ?_)
        · refine gs_bipush (pc := 66) (gd gk_130 38 rfl) (14) rfl ?_
          refine gs_putI (pc := 68) (gd gk_130 39 rfl) rfl rfl rfl rfl (fun I_2 hI_2 => ?_)
          -- end 1: return, pc 71, locals [(0, .ref (126)), (1, .int (Int32.ofNat 13))]
          have f2 : I_1 126 19 = Int32.ofNat sz := by rw [hI_1, gw_u_s]; simp [upd]; exact e19
          rw [f2] at c54
          have c54 := (zle (k := 14) (by omega) (by omega)).mp c54
          have a1 : I_2 126 20 = Int32.ofNat ((nx + 1) % 14) := by rw [hI_2, gw_u_s]; simp only [upd]; rw [if_neg (by omega), hI_1, gw_u_s]; simp only [upd, if_true]; exact gz_r14 nx h2
          have a2 : I_2 126 19 = Int32.ofNat (min (sz + 1) 14) := by rw [hI_2, gw_u_s]; simp only [upd, if_true]; rw [show min (sz + 1) 14 = 14 by omega]; rfl
          have o : ∀ p, p ≠ 126 → I_2 p = I1 p := fun p hp => by rw [hI_2, gw_u_o hp, hI_1, gw_u_o hp]
          exact gs_ret (pc := 71) (gd gk_130 40 rfl) rfl (Nat.zero_le _) (Nat.zero_le _) (⟨rfl, I_2, rfl, by rw [o 136 (by omega)]; exact g1, by rw [o 136 (by omega)]; exact g2, a1, a2, fun q q1 q2 => by rw [hI_2, gw_u_s]; simp only [upd]; rw [if_neg q1, hI_1, gw_u_s]; simp only [upd]; rw [if_neg q2, g3 126 (by omega)], fun p q1 q2 => by rw [o p q1]; exact g3 p q2⟩)
        · refine gs_aload_n (pc := 57) (gd gk_130 33 rfl) rfl ?_
          refine gs_getI (pc := 58) (gd gk_130 34 rfl) rfl rfl ?_
          refine gs_iconst (pc := 61) (gd gk_130 35 rfl) (1) rfl ?_
          refine gs_iadd (pc := 62) (gd gk_130 36 rfl) ?_
          refine gs_goto (pc := 63) (gd gk_130 37 rfl) ?_
          refine gs_putI (pc := 68) (gd gk_130 39 rfl) rfl rfl rfl rfl (fun I_3 hI_3 => ?_)
          -- end 2: return, pc 71, locals [(0, .ref (126)), (1, .int (Int32.ofNat 13))]
          have f2 : I_1 126 19 = Int32.ofNat sz := by rw [hI_1, gw_u_s]; simp [upd]; exact e19
          rw [f2] at c54
          have c54 : ¬ 14 ≤ sz := fun e => c54 ((zle (k := 14) (by omega) (by omega)).mpr e)
          have a1 : I_3 126 20 = Int32.ofNat ((nx + 1) % 14) := by rw [hI_3, gw_u_s]; simp only [upd]; rw [if_neg (by omega), hI_1, gw_u_s]; simp only [upd, if_true]; exact gz_r14 nx h2
          have a2 : I_3 126 19 = Int32.ofNat (min (sz + 1) 14) := by rw [hI_3, gw_u_s]; simp only [upd, if_true]; rw [show min (sz + 1) 14 = sz + 1 by omega, f2, zsucc]
          have o : ∀ p, p ≠ 126 → I_3 p = I1 p := fun p hp => by rw [hI_3, gw_u_o hp, hI_1, gw_u_o hp]
          exact gs_ret (pc := 71) (gd gk_130 40 rfl) rfl (Nat.zero_le _) (Nat.zero_le _) (⟨rfl, I_3, rfl, by rw [o 136 (by omega)]; exact g1, by rw [o 136 (by omega)]; exact g2, a1, a2, fun q q1 q2 => by rw [hI_3, gw_u_s]; simp only [upd]; rw [if_neg q1, hI_1, gw_u_s]; simp only [upd]; rw [if_neg q2, g3 126 (by omega)], fun p q1 q2 => by rw [o p q1]; exact g3 p q2⟩)
      · replace c5 : ¬ (13 ≤ 13) := fun q9 => c5 ((zle (k := 13) (m := 13) (by omega) (by omega)).mpr q9)
        -- end 3: stop, pc 8, locals [(0, .ref (126)), (1, .int (Int32.ofNat 13))]
        exact absurd (by decide) c5
    | succ m ih =>
      intro k hk I1 g1 g2 g3
      have e20 : I1 126 20 = Int32.ofNat nx := by rw [g3 126 (by omega)]; exact h1
      refine gs_iload_n (pc := 2) (gd gk_130 2 rfl) rfl ?_
      refine gs_bipush (pc := 3) (gd gk_130 3 rfl) (13) rfl ?_
      refine gs_icmp_ge (pc := 5) (gd gk_130 4 rfl) (fun c5 => ?_) (fun c5 => ?_)
      · replace c5 : 13 ≤ k := (zle (k := 13) (m := k) (by omega) (by omega)).mp c5
        -- end 1: stop, pc 34, locals [(0, .ref (126)), (1, .int (Int32.ofNat k))]
        exact absurd c5 (by omega)
      · replace c5 : ¬ (13 ≤ k) := fun q9 => c5 ((zle (k := 13) (m := k) (by omega) (by omega)).mpr q9)
        refine gs_aload_n (pc := 8) (gd gk_130 5 rfl) rfl ?_
        refine gs_getR (r := 136) (pc := 9) (gd gk_130 6 rfl) rfl rfl rfl (by decide) ?_
        refine gs_bipush (pc := 12) (gd gk_130 7 rfl) (13) rfl ?_
        refine gs_aload_n (pc := 14) (gd gk_130 8 rfl) rfl ?_
        refine gs_getI (pc := 15) (gd gk_130 9 rfl) rfl rfl ?_
        refine gs_as (Int32.ofNat nx) (e20) ?_
        refine gs_imul (pc := 18) (gd gk_130 10 rfl) ?_
        refine gs_iload_n (pc := 19) (gd gk_130 11 rfl) rfl ?_
        refine gs_iadd (pc := 20) (gd gk_130 12 rfl) ?_
        refine gs_aload_n (pc := 21) (gd gk_130 13 rfl) rfl ?_
        refine gs_getR (r := 133) (pc := 22) (gd gk_130 14 rfl) rfl rfl rfl (by decide) ?_
        refine gs_iload_n (pc := 25) (gd gk_130 15 rfl) rfl ?_
        refine gs_ialoadK (k) (52) (pc := 26) (gd gk_130 16 rfl) (Or.inl rfl) rfl (by decide) (by first | rfl | (simp only [Int32.ofNat_add, Int32.ofNat_mul]; rfl) | (simp only [Int32.ofNat_add, Int32.ofNat_mul])) (by omega) ?_
        refine gs_iastoreK (((13 * nx) + k)) (182) gs_sl (pc := 27) (gd gk_130 17 rfl) rfl rfl (by decide) (by first | rfl | (simp only [Int32.ofNat_add, Int32.ofNat_mul]; rfl) | (simp only [Int32.ofNat_add, Int32.ofNat_mul])) (by omega) (fun I_1 hI_1 => ?_)
        refine gs_iinc (ls2 := fun v => [(0, .ref (126)), (1, .int (v))]) (pc := 28) (gd gk_130 18 rfl) rfl (by rw [gL_130]; decide) (fun _ => rfl) (1) rfl (fun v1_1 hv1_1 => ?_)
        obtain rfl : v1_1 = Int32.ofNat (k + 1) := hv1_1.trans (by first | rfl | (simp only [Int32.ofNat_add, Int32.ofNat_mul]; rfl) | (simp only [Int32.ofNat_add, Int32.ofNat_mul]))
        refine gs_goto (pc := 31) (gd gk_130 19 rfl) ?_
        -- end 2: stop, pc 2, locals [(0, .ref (126)), (1, .int (Int32.ofNat (k + 1)))]
        refine ih (k + 1) (by omega) I_1 (fun c hc => ?_) (fun q hq => ?_) (fun p hp => by rw [hI_1, gw_u_o hp]; exact g3 p hp)
        · rw [hI_1, gw_u_s]
          simp only [upd]
          by_cases e : c = k
          · subst e; rw [if_pos rfl, g3 133 (by omega)]
          · rw [if_neg (by omega)]; exact g1 c (by omega)
        · rw [hI_1, gw_u_s]; simp only [upd]; rw [if_neg (by omega)]; exact g2 q hq
  refine gs_iconst (pc := 0) (gd gk_130 0 rfl) (0) rfl ?_
  refine gs_istore_n (ls2 := fun v => [(0, .ref (126)), (1, .int (v))]) (pc := 1) (gd gk_130 1 rfl) (by rw [gL_130]; decide) (fun _ => rfl) (fun v1_1 hv1_1 => ?_)
  obtain rfl : v1_1 = Int32.ofNat 0 := hv1_1.trans (by first | rfl | (simp only [Int32.ofNat_add, Int32.ofNat_mul]; rfl) | (simp only [Int32.ofNat_add, Int32.ofNat_mul]))
  -- end 1: stop, pc 2, locals [(0, .ref (126)), (1, .int (Int32.ofNat 0))]
  exact lp 13 0 rfl I (fun c hc => absurd hc (Nat.not_lt_zero _)) (fun _ _ => rfl) (fun _ _ => rfl)
end
