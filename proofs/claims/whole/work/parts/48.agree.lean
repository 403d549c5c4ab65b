/-! ===== a morning begins; what was seen ===== -/
section
variable {V : gw_V} {n W N h0 L bc : Nat} {I : Nat → Nat → Int32} {J : Nat → Nat → Int64}
theorem c_clear_12 : gw_E V 14 (0, [(0, .ref 12)], [], gS n I J, 0, 0) (fun v w' => v = none ∧ ∃ I2, w' = gS n I2 J ∧ (∀ c, c < 10 → I2 13 c = 0) ∧ ∀ p, p ≠ 13 → I2 p = I p) := by
  have lp : ∀ (m k : Nat), m + k = 10 → ∀ I1, (∀ c, c < k → I1 13 c = 0) → (∀ p, p ≠ 13 → I1 p = I p) → gw_E V 14 (2, [(0, .ref 12), (1, .int (Int32.ofNat k))], [], gS n I1 J, 0, 0) (fun v w' => v = none ∧ ∃ I2, w' = gS n I2 J ∧ (∀ c, c < 10 → I2 13 c = 0) ∧ ∀ p, p ≠ 13 → I2 p = I p) := by
    intro m
    induction m with
    | zero =>
      intro k hk I1 g1 g2
      obtain rfl : k = 10 := by omega
      refine gs_iload_n (pc := 2) (gd gk_14 2 rfl) rfl ?_
      refine gs_bipush (pc := 3) (gd gk_14 3 rfl) (10) rfl ?_
      refine gs_icmp_ge (pc := 5) (gd gk_14 4 rfl) (fun c5 => ?_) (fun c5 => ?_)
      · replace c5 : 10 ≤ 10 := (zle (k := 10) (m := 10) (by omega) (by omega)).mp c5
        -- end 1: return, pc 21, locals [(0, .ref (12)), (1, .int (Int32.ofNat 10))]
        exact gs_ret (pc := 21) (gd gk_14 12 rfl) rfl (Nat.zero_le _) (Nat.zero_le _) (⟨rfl, I1, rfl, g1, g2⟩)
      · replace c5 : ¬ (10 ≤ 10) := fun q9 => c5 ((zle (k := 10) (m := 10) (by omega) (by omega)).mpr q9)
        -- end 2: stop, pc 8, locals [(0, .ref (12)), (1, .int (Int32.ofNat 10))]
        exact absurd (by decide) c5
    | succ m ih =>
      intro k hk I1 g1 g2
      refine gs_iload_n (pc := 2) (gd gk_14 2 rfl) rfl ?_
      refine gs_bipush (pc := 3) (gd gk_14 3 rfl) (10) rfl ?_
      refine gs_icmp_ge (pc := 5) (gd gk_14 4 rfl) (fun c5 => ?_) (fun c5 => ?_)
      · replace c5 : 10 ≤ k := (zle (k := 10) (m := k) (by omega) (by omega)).mp c5
        -- end 1: return, pc 21, locals [(0, .ref (12)), (1, .int (Int32.ofNat k))]
        exact absurd c5 (by omega)
      · replace c5 : ¬ (10 ≤ k) := fun q9 => c5 ((zle (k := 10) (m := k) (by omega) (by omega)).mpr q9)
        refine gs_aload_n (pc := 8) (gd gk_14 5 rfl) rfl ?_
        refine gs_getR (r := 13) (pc := 9) (gd gk_14 6 rfl) rfl rfl rfl (by decide) ?_
        refine gs_iload_n (pc := 12) (gd gk_14 7 rfl) rfl ?_
        refine gs_iconst (pc := 13) (gd gk_14 8 rfl) (0) rfl ?_
        refine gs_iastoreK (k) (10) gs_sl (pc := 14) (gd gk_14 9 rfl) rfl rfl (by decide) (by first | rfl | (simp only [Int32.ofNat_add, Int32.ofNat_mul]; rfl) | (simp only [Int32.ofNat_add, Int32.ofNat_mul])) (by omega) (fun I_1 hI_1 => ?_)
        refine gs_iinc (ls2 := fun v => [(0, .ref (12)), (1, .int (v))]) (pc := 15) (gd gk_14 10 rfl) rfl (by rw [gL_14]; decide) (fun _ => rfl) (1) rfl (fun v1_1 hv1_1 => ?_)
        obtain rfl : v1_1 = Int32.ofNat (k + 1) := hv1_1.trans (by first | rfl | (simp only [Int32.ofNat_add, Int32.ofNat_mul]; rfl) | (simp only [Int32.ofNat_add, Int32.ofNat_mul]))
        refine gs_goto (pc := 18) (gd gk_14 11 rfl) ?_
        -- end 2: stop, pc 2, locals [(0, .ref (12)), (1, .int (Int32.ofNat (k + 1)))]
        refine ih (k + 1) (by omega) I_1 (fun c hc => ?_) (fun p hp => by rw [hI_1, gw_u_o hp]; exact g2 p hp)
        rw [hI_1, gw_u_s]
        simp only [upd]
        by_cases e : c = k
        · rw [if_pos e]
        · rw [if_neg e]; exact g1 c (by omega)
  refine gs_iconst (pc := 0) (gd gk_14 0 rfl) (0) rfl ?_
  refine gs_istore_n (ls2 := fun v => [(0, .ref (12)), (1, .int (v))]) (pc := 1) (gd gk_14 1 rfl) (by rw [gL_14]; decide) (fun _ => rfl) (fun v1_1 hv1_1 => ?_)
  obtain rfl : v1_1 = Int32.ofNat 0 := hv1_1.trans (by first | rfl | (simp only [Int32.ofNat_add, Int32.ofNat_mul]; rfl) | (simp only [Int32.ofNat_add, Int32.ofNat_mul]))
  -- end 1: stop, pc 2, locals [(0, .ref (12)), (1, .int (Int32.ofNat 0))]
  exact lp 10 0 rfl I (fun c hc => absurd hc (Nat.not_lt_zero _)) (fun _ _ => rfl)
theorem c_begin_12 : gw_E V 13 (0, [(0, .ref 12)], [], gS n I J, 0, 0) (fun v w' => v = none ∧ ∃ I2, w' = gS n I2 J ∧ (∀ c, c < 10 → I2 13 c = 0) ∧ I2 12 1 = 0 ∧ I2 12 2 = 0 ∧ I2 12 3 = 0 ∧ ∀ p, p ≠ 12 → p ≠ 13 → I2 p = I p) := by
  refine gs_aload_n (pc := 0) (gd gk_13 0 rfl) rfl ?_
  refine gs_callV (as := []) (pc := 1) (gd gk_13 1 rfl) (by decide) rfl (by decide) rfl rfl (Nat.le_of_ble_eq_true rfl) gq_13_14 (Nat.le_of_ble_eq_true rfl) (c_clear_12) (fun r_1 w_1 q_1 => ?_)
  obtain ⟨rfl, I_c, rfl, d1, d2⟩ := q_1
  refine gs_aload_n (pc := 4) (gd gk_13 2 rfl) rfl ?_
  refine gs_iconst (pc := 5) (gd gk_13 3 rfl) (0) rfl ?_
  refine gs_putI (pc := 6) (gd gk_13 4 rfl) rfl rfl rfl rfl (fun I_1 hI_1 => ?_)
  refine gs_aload_n (pc := 9) (gd gk_13 5 rfl) rfl ?_
  refine gs_iconst (pc := 10) (gd gk_13 6 rfl) (0) rfl ?_
  refine gs_putI (pc := 11) (gd gk_13 7 rfl) rfl rfl rfl rfl (fun I_2 hI_2 => ?_)
  refine gs_aload_n (pc := 14) (gd gk_13 8 rfl) rfl ?_
  refine gs_iconst (pc := 15) (gd gk_13 9 rfl) (0) rfl ?_
  refine gs_putI (pc := 16) (gd gk_13 10 rfl) rfl rfl rfl rfl (fun I_3 hI_3 => ?_)
  -- end 1: return, pc 19, locals [(0, .ref (12))]
  have o : ∀ p, p ≠ 12 → I_3 p = I_c p := fun p hp => by rw [hI_3, gw_u_o hp, hI_2, gw_u_o hp, hI_1, gw_u_o hp]
  have e : I_3 12 1 = 0 ∧ I_3 12 2 = 0 ∧ I_3 12 3 = 0 := by
    refine ⟨?_, ?_, ?_⟩ <;> subst hI_3 hI_2 hI_1 <;> simp [gw_u]
  exact gs_ret (pc := 19) (gd gk_13 11 rfl) rfl (Nat.zero_le _) (Nat.zero_le _) (⟨rfl, I_3, rfl, fun c hc => by rw [o 13 (by omega)]; exact d1 c hc, e.1, e.2.1, e.2.2, fun p q1 q2 => by rw [o p q1]; exact d2 p q2⟩)
theorem c_clear_14 : gw_E V 14 (0, [(0, .ref 14)], [], gS n I J, 0, 0) (fun v w' => v = none ∧ ∃ I2, w' = gS n I2 J ∧ (∀ c, c < 10 → I2 15 c = 0) ∧ ∀ p, p ≠ 15 → I2 p = I p) := by
  have lp : ∀ (m k : Nat), m + k = 10 → ∀ I1, (∀ c, c < k → I1 15 c = 0) → (∀ p, p ≠ 15 → I1 p = I p) → gw_E V 14 (2, [(0, .ref 14), (1, .int (Int32.ofNat k))], [], gS n I1 J, 0, 0) (fun v w' => v = none ∧ ∃ I2, w' = gS n I2 J ∧ (∀ c, c < 10 → I2 15 c = 0) ∧ ∀ p, p ≠ 15 → I2 p = I p) := by
    intro m
    induction m with
    | zero =>
      intro k hk I1 g1 g2
      obtain rfl : k = 10 := by omega
      refine gs_iload_n (pc := 2) (gd gk_14 2 rfl) rfl ?_
      refine gs_bipush (pc := 3) (gd gk_14 3 rfl) (10) rfl ?_
      refine gs_icmp_ge (pc := 5) (gd gk_14 4 rfl) (fun c5 => ?_) (fun c5 => ?_)
      · replace c5 : 10 ≤ 10 := (zle (k := 10) (m := 10) (by omega) (by omega)).mp c5
        -- end 1: return, pc 21, locals [(0, .ref (14)), (1, .int (Int32.ofNat 10))]
        exact gs_ret (pc := 21) (gd gk_14 12 rfl) rfl (Nat.zero_le _) (Nat.zero_le _) (⟨rfl, I1, rfl, g1, g2⟩)
      · replace c5 : ¬ (10 ≤ 10) := fun q9 => c5 ((zle (k := 10) (m := 10) (by omega) (by omega)).mpr q9)
        -- end 2: stop, pc 8, locals [(0, .ref (14)), (1, .int (Int32.ofNat 10))]
        exact absurd (by decide) c5
    | succ m ih =>
      intro k hk I1 g1 g2
      refine gs_iload_n (pc := 2) (gd gk_14 2 rfl) rfl ?_
      refine gs_bipush (pc := 3) (gd gk_14 3 rfl) (10) rfl ?_
      refine gs_icmp_ge (pc := 5) (gd gk_14 4 rfl) (fun c5 => ?_) (fun c5 => ?_)
      · replace c5 : 10 ≤ k := (zle (k := 10) (m := k) (by omega) (by omega)).mp c5
        -- end 1: return, pc 21, locals [(0, .ref (14)), (1, .int (Int32.ofNat k))]
        exact absurd c5 (by omega)
      · replace c5 : ¬ (10 ≤ k) := fun q9 => c5 ((zle (k := 10) (m := k) (by omega) (by omega)).mpr q9)
        refine gs_aload_n (pc := 8) (gd gk_14 5 rfl) rfl ?_
        refine gs_getR (r := 15) (pc := 9) (gd gk_14 6 rfl) rfl rfl rfl (by decide) ?_
        refine gs_iload_n (pc := 12) (gd gk_14 7 rfl) rfl ?_
        refine gs_iconst (pc := 13) (gd gk_14 8 rfl) (0) rfl ?_
        refine gs_iastoreK (k) (10) gs_sl (pc := 14) (gd gk_14 9 rfl) rfl rfl (by decide) (by first | rfl | (simp only [Int32.ofNat_add, Int32.ofNat_mul]; rfl) | (simp only [Int32.ofNat_add, Int32.ofNat_mul])) (by omega) (fun I_1 hI_1 => ?_)
        refine gs_iinc (ls2 := fun v => [(0, .ref (14)), (1, .int (v))]) (pc := 15) (gd gk_14 10 rfl) rfl (by rw [gL_14]; decide) (fun _ => rfl) (1) rfl (fun v1_1 hv1_1 => ?_)
        obtain rfl : v1_1 = Int32.ofNat (k + 1) := hv1_1.trans (by first | rfl | (simp only [Int32.ofNat_add, Int32.ofNat_mul]; rfl) | (simp only [Int32.ofNat_add, Int32.ofNat_mul]))
        refine gs_goto (pc := 18) (gd gk_14 11 rfl) ?_
        -- end 2: stop, pc 2, locals [(0, .ref (14)), (1, .int (Int32.ofNat (k + 1)))]
        refine ih (k + 1) (by omega) I_1 (fun c hc => ?_) (fun p hp => by rw [hI_1, gw_u_o hp]; exact g2 p hp)
        rw [hI_1, gw_u_s]
        simp only [upd]
        by_cases e : c = k
        · rw [if_pos e]
        · rw [if_neg e]; exact g1 c (by omega)
  refine gs_iconst (pc := 0) (gd gk_14 0 rfl) (0) rfl ?_
  refine gs_istore_n (ls2 := fun v => [(0, .ref (14)), (1, .int (v))]) (pc := 1) (gd gk_14 1 rfl) (by rw [gL_14]; decide) (fun _ => rfl) (fun v1_1 hv1_1 => ?_)
  obtain rfl : v1_1 = Int32.ofNat 0 := hv1_1.trans (by first | rfl | (simp only [Int32.ofNat_add, Int32.ofNat_mul]; rfl) | (simp only [Int32.ofNat_add, Int32.ofNat_mul]))
  -- end 1: stop, pc 2, locals [(0, .ref (14)), (1, .int (Int32.ofNat 0))]
  exact lp 10 0 rfl I (fun c hc => absurd hc (Nat.not_lt_zero _)) (fun _ _ => rfl)
theorem c_begin_14 : gw_E V 13 (0, [(0, .ref 14)], [], gS n I J, 0, 0) (fun v w' => v = none ∧ ∃ I2, w' = gS n I2 J ∧ (∀ c, c < 10 → I2 15 c = 0) ∧ I2 14 1 = 0 ∧ I2 14 2 = 0 ∧ I2 14 3 = 0 ∧ ∀ p, p ≠ 14 → p ≠ 15 → I2 p = I p) := by
  refine gs_aload_n (pc := 0) (gd gk_13 0 rfl) rfl ?_
  refine gs_callV (as := []) (pc := 1) (gd gk_13 1 rfl) (by decide) rfl (by decide) rfl rfl (Nat.le_of_ble_eq_true rfl) gq_13_14 (Nat.le_of_ble_eq_true rfl) (c_clear_14) (fun r_1 w_1 q_1 => ?_)
  obtain ⟨rfl, I_c, rfl, d1, d2⟩ := q_1
  refine gs_aload_n (pc := 4) (gd gk_13 2 rfl) rfl ?_
  refine gs_iconst (pc := 5) (gd gk_13 3 rfl) (0) rfl ?_
  refine gs_putI (pc := 6) (gd gk_13 4 rfl) rfl rfl rfl rfl (fun I_1 hI_1 => ?_)
  refine gs_aload_n (pc := 9) (gd gk_13 5 rfl) rfl ?_
  refine gs_iconst (pc := 10) (gd gk_13 6 rfl) (0) rfl ?_
  refine gs_putI (pc := 11) (gd gk_13 7 rfl) rfl rfl rfl rfl (fun I_2 hI_2 => ?_)
  refine gs_aload_n (pc := 14) (gd gk_13 8 rfl) rfl ?_
  refine gs_iconst (pc := 15) (gd gk_13 9 rfl) (0) rfl ?_
  refine gs_putI (pc := 16) (gd gk_13 10 rfl) rfl rfl rfl rfl (fun I_3 hI_3 => ?_)
  -- end 1: return, pc 19, locals [(0, .ref (14))]
  have o : ∀ p, p ≠ 14 → I_3 p = I_c p := fun p hp => by rw [hI_3, gw_u_o hp, hI_2, gw_u_o hp, hI_1, gw_u_o hp]
  have e : I_3 14 1 = 0 ∧ I_3 14 2 = 0 ∧ I_3 14 3 = 0 := by
    refine ⟨?_, ?_, ?_⟩ <;> subst hI_3 hI_2 hI_1 <;> simp [gw_u]
  exact gs_ret (pc := 19) (gd gk_13 11 rfl) rfl (Nat.zero_le _) (Nat.zero_le _) (⟨rfl, I_3, rfl, fun c hc => by rw [o 15 (by omega)]; exact d1 c hc, e.1, e.2.1, e.2.2, fun p q1 q2 => by rw [o p q1]; exact d2 p q2⟩)
/-- what a walk shows at the sights: k of them are as they were seen -/
def gq_ag (A : Nat → Nat → Bool) (W N : Nat) (no ho : Nat → Nat) (hd : Nat → Bool) : Nat → Bool
  | 0 => true
  | k + 1 => gq_ag A W N no ho hd k && (!(decide (no k < N) && decide (ho k < W)) || A (ho k) (no k) == hd k)
theorem gq_ag_f {A : Nat → Nat → Bool} {W N : Nat} {no ho : Nat → Nat} {hd : Nat → Bool} {k : Nat} : ∀ {m : Nat}, gq_ag A W N no ho hd k = false → gq_ag A W N no ho hd (k + m) = false
  | 0, h => h
  | m + 1, h => by show (gq_ag A W N no ho hd (k + m) && _) = false; rw [gq_ag_f (m := m) h]; rfl
theorem gz_b_inj {a b : Bool} (h : gz_b a = gz_b b) : a = b := by cases a <;> cases b <;> first | rfl | exact absurd h (by decide)
theorem c_agree (sz : Nat) (no ho : Nat → Nat) (hd : Nat → Bool) (A : Nat → Nat → Bool) (hz : I 53 3 = Int32.ofNat sz) (h6 : sz ≤ 6) (hno : ∀ k, k < sz → I 54 k = Int32.ofNat (no k) ∧ no k < 6) (hho : ∀ k, k < sz → I 55 k = Int32.ofNat (ho k) ∧ ho k < 8) (hhd : ∀ k, k < sz → I 56 k = gz_b (hd k)) (hN : I 6 4 = Int32.ofNat N) (hN6 : N ≤ 6) (hW : I 6 3 = Int32.ofNat W) (hW8 : W ≤ 8) (hA : ∀ g, g < W → ∀ m, m < N → gz_in (I 80 (g + 1)) (Int32.ofNat m) = A g m) : gw_E V 26 (0, [(0, .ref 53), (1, .ref 6), (2, .ref 57)], [], gS n I J, 0, 0) (fun v w' => v = some (.int (gz_b (gq_ag A W N no ho hd sz))) ∧ w' = gS n I J) := by
  have lp : ∀ (m k : Nat), m + k = sz → gq_ag A W N no ho hd k = true → gw_E V 26 (2, [(0, .ref 53), (1, .ref 6), (2, .ref 57), (3, .int (Int32.ofNat k))], [], gS n I J, 0, 0) (fun v w' => v = some (.int (gz_b (gq_ag A W N no ho hd sz))) ∧ w' = gS n I J) := by
    intro m
    induction m with
    | zero =>
      intro k hk hag
      obtain rfl : k = sz := by omega
      refine gs_iload_n (pc := 2) (gd gk_26 2 rfl) rfl ?_
      refine gs_aload_n (pc := 3) (gd gk_26 3 rfl) rfl ?_
      refine gs_getI (pc := 4) (gd gk_26 4 rfl) rfl rfl ?_
      refine gs_as (Int32.ofNat k) (hz) ?_
      refine gs_icmp_ge (pc := 7) (gd gk_26 5 rfl) (fun c7 => ?_) (fun c7 => ?_)
      · replace c7 : k ≤ k := (zle (k := k) (m := k) (by omega) (by omega)).mp c7
        refine gs_iconst (pc := 87) (gd gk_26 49 rfl) (1) rfl ?_
        -- end 1: ireturn 1, pc 88, locals [(0, .ref (53)), (1, .ref (6)), (2, .ref (57)), (3, .int (Int32.ofNat k))]
        exact gs_iret (pc := 88) (gd gk_26 50 rfl) rfl (rfl) (Nat.zero_le _) (Nat.zero_le _) (⟨by rw [hag]; rfl, rfl⟩)
      · replace c7 : ¬ (k ≤ k) := fun q9 => c7 ((zle (k := k) (m := k) (by omega) (by omega)).mpr q9)
        -- end 2: stop, pc 10, locals [(0, .ref (53)), (1, .ref (6)), (2, .ref (57)), (3, .int (Int32.ofNat k))]
        exact absurd (Nat.le_refl _) c7
    | succ m ih =>
      intro k hk hag
      have ek := hno k (by omega)
      have eh := hho k (by omega)
      have ed := hhd k (by omega)
      have key : gq_ag A W N no ho hd (k + 1) = (!(decide (no k < N) && decide (ho k < W)) || A (ho k) (no k) == hd k) := by show (gq_ag A W N no ho hd k && _) = _; rw [hag]; rfl
      have tail : gw_E V 26 (43, [(0, .ref 53), (1, .ref 6), (2, .ref 57), (3, .int (Int32.ofNat k)), (4, .int (gz_b (decide (no k < N) && decide (ho k < W))))], [], gS n I J, 0, 0) (fun v w' => v = some (.int (gz_b (gq_ag A W N no ho hd sz))) ∧ w' = gS n I J) := by
        refine gs_iload (pc := 43) (gd gk_26 24 rfl) rfl ?_
        refine gs_if_eq (pc := 45) (gd gk_26 25 rfl) (fun c45 => ?_) (fun c45 => ?_)
        · refine gs_iinc (ls2 := fun v => [(0, .ref (53)), (1, .ref (6)), (2, .ref (57)), (3, .int (v)), (4, .int (gz_b (decide (no k < N) && decide (ho k < W))))]) (pc := 81) (gd gk_26 47 rfl) rfl (by rw [gL_26]; decide) (fun _ => rfl) (1) rfl (fun v3_1 hv3_1 => ?_)
          obtain rfl : v3_1 = Int32.ofNat (k + 1) := hv3_1.trans (by first | rfl | (simp only [Int32.ofNat_add, Int32.ofNat_mul]; rfl) | (simp only [Int32.ofNat_add, Int32.ofNat_mul]))
          refine gs_goto (pc := 84) (gd gk_26 48 rfl) ?_
          -- end 1: stop, pc 2, locals [(0, .ref (53)), (1, .ref (6)), (2, .ref (57)), (3, .int (Int32.ofNat (k + 1))), (4, .int (gz_b (decide (no k < N) && decide (ho k < W))))]
          exact gs_drop [0, 1, 2, 3] rfl (ih (k + 1) (by omega) (by rw [key, gz_b_eq.mp c45]; rfl))
        · refine gs_aload_n (pc := 48) (gd gk_26 26 rfl) rfl ?_
          refine gs_getR (r := 80) (pc := 49) (gd gk_26 27 rfl) rfl rfl rfl (by decide) ?_
          refine gs_aload_n (pc := 52) (gd gk_26 28 rfl) rfl ?_
          refine gs_getR (r := 55) (pc := 53) (gd gk_26 29 rfl) rfl rfl rfl (by decide) ?_
          refine gs_iload_n (pc := 56) (gd gk_26 30 rfl) rfl ?_
          refine gs_ialoadK (k) (6) (pc := 57) (gd gk_26 31 rfl) (Or.inl rfl) rfl (by decide) (by first | rfl | (simp only [Int32.ofNat_add, Int32.ofNat_mul]; rfl) | (simp only [Int32.ofNat_add, Int32.ofNat_mul])) (by omega) ?_
          refine gs_as (Int32.ofNat (ho k)) (eh.1) ?_
          refine gs_iconst (pc := 58) (gd gk_26 32 rfl) (1) rfl ?_
          refine gs_iadd (pc := 59) (gd gk_26 33 rfl) ?_
          refine gs_ialoadK (((ho k) + 1)) (9) (pc := 60) (gd gk_26 34 rfl) (Or.inl rfl) rfl (by decide) (by first | rfl | (simp only [Int32.ofNat_add, Int32.ofNat_mul]; rfl) | (simp only [Int32.ofNat_add, Int32.ofNat_mul])) (by omega) ?_
          refine gs_aload_n (pc := 61) (gd gk_26 35 rfl) rfl ?_
          refine gs_getR (r := 54) (pc := 62) (gd gk_26 36 rfl) rfl rfl rfl (by decide) ?_
          refine gs_iload_n (pc := 65) (gd gk_26 37 rfl) rfl ?_
          refine gs_ialoadK (k) (6) (pc := 66) (gd gk_26 38 rfl) (Or.inl rfl) rfl (by decide) (by first | rfl | (simp only [Int32.ofNat_add, Int32.ofNat_mul]; rfl) | (simp only [Int32.ofNat_add, Int32.ofNat_mul])) (by omega) ?_
          refine gs_as (Int32.ofNat (no k)) (ek.1) ?_
          refine gs_callS (as := [.int ((I 80 ((ho k) + 1))), .int (Int32.ofNat (no k))]) (pc := 67) (gd gk_26 39 rfl) (by decide) rfl rfl (Nat.le_of_ble_eq_true rfl) gq_26_96 (Nat.le_of_ble_eq_true rfl) (c_in ((I 80 ((ho k) + 1))) (Int32.ofNat (no k))) (fun r_67 w_67 q_67 => ?_)
          obtain ⟨rfl, rfl⟩ := q_67
          refine gs_aload_n (pc := 70) (gd gk_26 40 rfl) rfl ?_
          refine gs_getR (r := 56) (pc := 71) (gd gk_26 41 rfl) rfl rfl rfl (by decide) ?_
          refine gs_iload_n (pc := 74) (gd gk_26 42 rfl) rfl ?_
          refine gs_baloadK (k) (6) (pc := 75) (gd gk_26 43 rfl) rfl rfl (by decide) (by first | rfl | (simp only [Int32.ofNat_add, Int32.ofNat_mul]; rfl) | (simp only [Int32.ofNat_add, Int32.ofNat_mul])) (by omega) ?_
          refine gs_as (gz_b (hd k)) (ed) ?_
          refine gs_icmp_eq (pc := 76) (gd gk_26 44 rfl) (fun c76 => ?_) (fun c76 => ?_)
          · refine gs_iinc (ls2 := fun v => [(0, .ref (53)), (1, .ref (6)), (2, .ref (57)), (3, .int (v)), (4, .int (gz_b (decide (no k < N) && decide (ho k < W))))]) (pc := 81) (gd gk_26 47 rfl) rfl (by rw [gL_26]; decide) (fun _ => rfl) (1) rfl (fun v3_2 hv3_2 => ?_)
            obtain rfl : v3_2 = Int32.ofNat (k + 1) := hv3_2.trans (by first | rfl | (simp only [Int32.ofNat_add, Int32.ofNat_mul]; rfl) | (simp only [Int32.ofNat_add, Int32.ofNat_mul]))
            refine gs_goto (pc := 84) (gd gk_26 48 rfl) ?_
            -- end 2: stop, pc 2, locals [(0, .ref (53)), (1, .ref (6)), (2, .ref (57)), (3, .int (Int32.ofNat (k + 1))), (4, .int (gz_b (decide (no k < N) && decide (ho k < W))))]
            have hc := gz_b_ne.mp c45
            have hc2 : no k < N ∧ ho k < W := by rw [Bool.and_eq_true] at hc; exact ⟨of_decide_eq_true hc.1, of_decide_eq_true hc.2⟩
            rw [hA (ho k) hc2.2 (no k) hc2.1] at c76
            exact gs_drop [0, 1, 2, 3] rfl (ih (k + 1) (by omega) (by rw [key, hc, gz_b_inj c76]; simp))
          · refine gs_iconst (pc := 79) (gd gk_26 45 rfl) (0) rfl ?_
            -- end 3: ireturn 0, pc 80, locals [(0, .ref (53)), (1, .ref (6)), (2, .ref (57)), (3, .int (Int32.ofNat k)), (4, .int (gz_b (decide (no k < N) && decide (ho k < W))))]
            have hc := gz_b_ne.mp c45
            have hc2 : no k < N ∧ ho k < W := by rw [Bool.and_eq_true] at hc; exact ⟨of_decide_eq_true hc.1, of_decide_eq_true hc.2⟩
            rw [hA (ho k) hc2.2 (no k) hc2.1] at c76
            have hne : A (ho k) (no k) ≠ hd k := fun e => c76 (by rw [e])
            have hf : gq_ag A W N no ho hd (k + 1) = false := by rw [key, hc]; simp [hne]
            have hff : gq_ag A W N no ho hd sz = false := by rw [show sz = (k + 1) + m by omega]; exact gq_ag_f hf
            exact gs_iret (pc := 80) (gd gk_26 46 rfl) rfl (rfl) (Nat.zero_le _) (Nat.zero_le _) (⟨by rw [hff]; rfl, rfl⟩)
      refine gs_iload_n (pc := 2) (gd gk_26 2 rfl) rfl ?_
      refine gs_aload_n (pc := 3) (gd gk_26 3 rfl) rfl ?_
      refine gs_getI (pc := 4) (gd gk_26 4 rfl) rfl rfl ?_
      refine gs_as (Int32.ofNat sz) (hz) ?_
      refine gs_icmp_ge (pc := 7) (gd gk_26 5 rfl) (fun c7 => ?_) (fun c7 => ?_)
      · replace c7 : sz ≤ k := (zle (k := sz) (m := k) (by omega) (by omega)).mp c7
        refine gs_iconst (pc := 87) (gd gk_26 49 rfl) (1) rfl ?_
        -- end 1: ireturn 1, pc 88, locals [(0, .ref (53)), (1, .ref (6)), (2, .ref (57)), (3, .int (Int32.ofNat k))]
        exact absurd c7 (by omega)
      · replace c7 : ¬ (sz ≤ k) := fun q9 => c7 ((zle (k := sz) (m := k) (by omega) (by omega)).mpr q9)
        refine gs_aload_n (pc := 10) (gd gk_26 6 rfl) rfl ?_
        refine gs_getR (r := 54) (pc := 11) (gd gk_26 7 rfl) rfl rfl rfl (by decide) ?_
        refine gs_iload_n (pc := 14) (gd gk_26 8 rfl) rfl ?_
        refine gs_ialoadK (k) (6) (pc := 15) (gd gk_26 9 rfl) (Or.inl rfl) rfl (by decide) (by first | rfl | (simp only [Int32.ofNat_add, Int32.ofNat_mul]; rfl) | (simp only [Int32.ofNat_add, Int32.ofNat_mul])) (by omega) ?_
        refine gs_as (Int32.ofNat (no k)) (ek.1) ?_
        refine gs_aload_n (pc := 16) (gd gk_26 10 rfl) rfl ?_
        refine gs_getI (pc := 17) (gd gk_26 11 rfl) rfl rfl ?_
        refine gs_as (Int32.ofNat N) (hN) ?_
        refine gs_icmp_ge (pc := 20) (gd gk_26 12 rfl) (fun c20 => ?_) (fun c20 => ?_)
        · replace c20 : N ≤ (no k) := (zle (k := N) (m := (no k)) (by omega) (by omega)).mp c20
          refine gs_iconst (pc := 40) (gd gk_26 22 rfl) (0) rfl ?_
          refine gs_istore (ls2 := fun v => [(0, .ref (53)), (1, .ref (6)), (2, .ref (57)), (3, .int (Int32.ofNat k)), (4, .int (v))]) (pc := 41) (gd gk_26 23 rfl) (by rw [gL_26]; decide) (fun _ => rfl) (fun v4_1 hv4_1 => ?_)
          obtain rfl : v4_1 = Int32.ofNat 0 := hv4_1.trans (by first | rfl | (simp only [Int32.ofNat_add, Int32.ofNat_mul]; rfl) | (simp only [Int32.ofNat_add, Int32.ofNat_mul]))
          -- end 2: stop, pc 43, locals [(0, .ref (53)), (1, .ref (6)), (2, .ref (57)), (3, .int (Int32.ofNat k)), (4, .int (Int32.ofNat 0))]
          rw [show gz_b (decide (no k < N) && decide (ho k < W)) = Int32.ofNat 0 by rw [decide_eq_false (show ¬ no k < N by omega)]; rfl] at tail
          exact tail
        · replace c20 : ¬ (N ≤ (no k)) := fun q9 => c20 ((zle (k := N) (m := (no k)) (by omega) (by omega)).mpr q9)
          refine gs_aload_n (pc := 23) (gd gk_26 13 rfl) rfl ?_
          refine gs_getR (r := 55) (pc := 24) (gd gk_26 14 rfl) rfl rfl rfl (by decide) ?_
          refine gs_iload_n (pc := 27) (gd gk_26 15 rfl) rfl ?_
          refine gs_ialoadK (k) (6) (pc := 28) (gd gk_26 16 rfl) (Or.inl rfl) rfl (by decide) (by first | rfl | (simp only [Int32.ofNat_add, Int32.ofNat_mul]; rfl) | (simp only [Int32.ofNat_add, Int32.ofNat_mul])) (by omega) ?_
          refine gs_as (Int32.ofNat (ho k)) (eh.1) ?_
          refine gs_aload_n (pc := 29) (gd gk_26 17 rfl) rfl ?_
          refine gs_getI (pc := 30) (gd gk_26 18 rfl) rfl rfl ?_
          refine gs_as (Int32.ofNat W) (hW) ?_
          refine gs_icmp_ge (pc := 33) (gd gk_26 19 rfl) (fun c33 => ?_) (fun c33 => ?_)
          · replace c33 : W ≤ (ho k) := (zle (k := W) (m := (ho k)) (by omega) (by omega)).mp c33
            refine gs_iconst (pc := 40) (gd gk_26 22 rfl) (0) rfl ?_
            refine gs_istore (ls2 := fun v => [(0, .ref (53)), (1, .ref (6)), (2, .ref (57)), (3, .int (Int32.ofNat k)), (4, .int (v))]) (pc := 41) (gd gk_26 23 rfl) (by rw [gL_26]; decide) (fun _ => rfl) (fun v4_2 hv4_2 => ?_)
            obtain rfl : v4_2 = Int32.ofNat 0 := hv4_2.trans (by first | rfl | (simp only [Int32.ofNat_add, Int32.ofNat_mul]; rfl) | (simp only [Int32.ofNat_add, Int32.ofNat_mul]))
            -- end 3: stop, pc 43, locals [(0, .ref (53)), (1, .ref (6)), (2, .ref (57)), (3, .int (Int32.ofNat k)), (4, .int (Int32.ofNat 0))]
            rw [show gz_b (decide (no k < N) && decide (ho k < W)) = Int32.ofNat 0 by rw [decide_eq_false (show ¬ ho k < W by omega), Bool.and_false]; rfl] at tail
            exact tail
          · replace c33 : ¬ (W ≤ (ho k)) := fun q9 => c33 ((zle (k := W) (m := (ho k)) (by omega) (by omega)).mpr q9)
            refine gs_iconst (pc := 36) (gd gk_26 20 rfl) (1) rfl ?_
            refine gs_goto (pc := 37) (gd gk_26 21 rfl) ?_
            refine gs_istore (ls2 := fun v => [(0, .ref (53)), (1, .ref (6)), (2, .ref (57)), (3, .int (Int32.ofNat k)), (4, .int (v))]) (pc := 41) (gd gk_26 23 rfl) (by rw [gL_26]; decide) (fun _ => rfl) (fun v4_3 hv4_3 => ?_)
            obtain rfl : v4_3 = Int32.ofNat 1 := hv4_3.trans (by first | rfl | (simp only [Int32.ofNat_add, Int32.ofNat_mul]; rfl) | (simp only [Int32.ofNat_add, Int32.ofNat_mul]))
            -- end 4: stop, pc 43, locals [(0, .ref (53)), (1, .ref (6)), (2, .ref (57)), (3, .int (Int32.ofNat k)), (4, .int (Int32.ofNat 1))]
            rw [show gz_b (decide (no k < N) && decide (ho k < W)) = Int32.ofNat 1 by rw [decide_eq_true (show no k < N by omega), decide_eq_true (show ho k < W by omega)]; rfl] at tail
            exact tail
  refine gs_iconst (pc := 0) (gd gk_26 0 rfl) (0) rfl ?_
  refine gs_istore_n (ls2 := fun v => [(0, .ref (53)), (1, .ref (6)), (2, .ref (57)), (3, .int (v))]) (pc := 1) (gd gk_26 1 rfl) (by rw [gL_26]; decide) (fun _ => rfl) (fun v3_1 hv3_1 => ?_)
  obtain rfl : v3_1 = Int32.ofNat 0 := hv3_1.trans (by first | rfl | (simp only [Int32.ofNat_add, Int32.ofNat_mul]; rfl) | (simp only [Int32.ofNat_add, Int32.ofNat_mul]))
  -- end 1: stop, pc 2, locals [(0, .ref (53)), (1, .ref (6)), (2, .ref (57)), (3, .int (Int32.ofNat 0))]
  exact lp sz 0 (by omega) rfl
end
