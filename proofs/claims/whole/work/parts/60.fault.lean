/-! ===== the class: isWhole, faultPlace, fault ===== -/
def gz_wh (l W : Nat) : Bool := decide (4 ≤ l) && decide ((l - 4 - W) % 5 = 0)
/-- the place of the fault of a text, W winds being told -/
def gz_fp (t : Nat → Int32) (l W : Nat) (y : Int32) : Prop := (∃ p, p < l ∧ gz_fi t l W p = false ∧ (∀ j, j < p → gz_fi t l W j = true) ∧ y = Int32.ofNat p) ∨ ((∀ j, j < l → gz_fi t l W j = true) ∧ y = if gz_wh l W then -99 else Int32.ofNat l)
theorem gz_wT_l {t : Nat → Int32} {l W : Nat} (h : gz_wT t l W) (h4 : 4 ≤ l) : 4 + W ≤ l := by
  rcases Nat.eq_zero_or_pos W with e | e
  · omega
  · have := h.2.1 (W - 1) (by omega)
    by_cases q : 4 + (W - 1) < l
    · omega
    · unfold gz_la at this
      rw [if_neg q] at this
      exact absurd this (by decide)
section
variable {V : gw_V} {n l : Nat} {I : Nat → Nat → Int32} {J : Nat → Nat → Int64}
theorem c_isWhole (W : Nat) (hT : gz_wT (I 5) l W) (hl : I 4 1 = Int32.ofNat l) (h8 : l ≤ 48) : gw_E V 43 (0, [(0, .ref 4), (1, .int (Int32.ofNat W))], [], gS n I J, 0, 0) (fun v w' => v = some (.int (gz_b (gz_wh l W))) ∧ w' = gS n I J) := by
  by_cases h4 : 4 ≤ l
  · obtain ⟨b, rfl⟩ : ∃ b, l = 4 + W + b := ⟨l - (4 + W), by have := gz_wT_l hT h4; omega⟩
    have eb : Int32.ofNat (4 + W + b) - 4 - Int32.ofNat W = Int32.ofNat b := by rw [Int32.ofNat_add, Int32.ofNat_add]; have : Int32.ofNat 4 = 4 := rfl; rw [this]; grind
    have ef : gz_wh (4 + W + b) W = decide (b % 5 = 0) := by unfold gz_wh; rw [decide_eq_true h4, show 4 + W + b - 4 - W = b by omega, Bool.true_and]
    refine gs_aload_n (pc := 0) (gd gk_43 0 rfl) rfl ?_
    refine gs_getI (pc := 1) (gd gk_43 1 rfl) rfl rfl ?_
    refine gs_as (Int32.ofNat (4 + W + b)) (hl) ?_
    refine gs_iconst (pc := 4) (gd gk_43 2 rfl) (4) rfl ?_
    refine gs_icmp_lt (pc := 5) (gd gk_43 3 rfl) (fun c5 => ?_) (fun c5 => ?_)
    · replace c5 : (4 + W + b) < 4 := (zlt (k := (4 + W + b)) (m := 4) (by omega) (by omega)).mp c5
      refine gs_iconst (pc := 25) (gd gk_43 15 rfl) (0) rfl ?_
      -- end 1: ireturn 0, pc 26, locals [(0, .ref (4)), (1, .int (Int32.ofNat W))]
      exact absurd c5 (by omega)
    · replace c5 : ¬ ((4 + W + b) < 4) := fun q9 => c5 ((zlt (k := (4 + W + b)) (m := 4) (by omega) (by omega)).mpr q9)
      refine gs_aload_n (pc := 8) (gd gk_43 4 rfl) rfl ?_
      refine gs_getI (pc := 9) (gd gk_43 5 rfl) rfl rfl ?_
      refine gs_as (Int32.ofNat (4 + W + b)) (hl) ?_
      refine gs_iconst (pc := 12) (gd gk_43 6 rfl) (4) rfl ?_
      refine gs_isub (pc := 13) (gd gk_43 7 rfl) ?_
      refine gs_iload_n (pc := 14) (gd gk_43 8 rfl) rfl ?_
      refine gs_isub (pc := 15) (gd gk_43 9 rfl) ?_
      refine gs_iconst (pc := 16) (gd gk_43 10 rfl) (5) rfl ?_
      refine gs_irem (pc := 17) (gd gk_43 11 rfl) (by decide) ?_
      refine gs_if_ne (pc := 18) (gd gk_43 12 rfl) (fun c18 => ?_) (fun c18 => ?_)
      · refine gs_iconst (pc := 25) (gd gk_43 15 rfl) (0) rfl ?_
        -- end 2: ireturn 0, pc 26, locals [(0, .ref (4)), (1, .int (Int32.ofNat W))]
        rw [eb, gz_r5 b (by omega)] at c18
        exact gs_iret (pc := 26) (gd gk_43 16 rfl) rfl (rfl) (Nat.zero_le _) (Nat.zero_le _) (⟨by rw [ef, decide_eq_false (fun e => c18 (by rw [e]; rfl))]; rfl, rfl⟩)
      · refine gs_iconst (pc := 21) (gd gk_43 13 rfl) (1) rfl ?_
        refine gs_goto (pc := 22) (gd gk_43 14 rfl) ?_
        -- end 3: ireturn 1, pc 26, locals [(0, .ref (4)), (1, .int (Int32.ofNat W))]
        rw [eb, gz_r5 b (by omega)] at c18
        exact gs_iret (pc := 26) (gd gk_43 16 rfl) rfl (rfl) (Nat.zero_le _) (Nat.zero_le _) (⟨by rw [ef, decide_eq_true ((zeq (m := 0) (by omega) (by omega)).mp c18)]; rfl, rfl⟩)
  · skip
    refine gs_aload_n (pc := 0) (gd gk_43 0 rfl) rfl ?_
    refine gs_getI (pc := 1) (gd gk_43 1 rfl) rfl rfl ?_
    refine gs_as (Int32.ofNat l) (hl) ?_
    refine gs_iconst (pc := 4) (gd gk_43 2 rfl) (4) rfl ?_
    refine gs_icmp_lt (pc := 5) (gd gk_43 3 rfl) (fun c5 => ?_) (fun c5 => ?_)
    · replace c5 : l < 4 := (zlt (k := l) (m := 4) (by omega) (by omega)).mp c5
      refine gs_iconst (pc := 25) (gd gk_43 15 rfl) (0) rfl ?_
      -- end 1: ireturn 0, pc 26, locals [(0, .ref (4)), (1, .int (Int32.ofNat W))]
      exact gs_iret (pc := 26) (gd gk_43 16 rfl) rfl (rfl) (Nat.zero_le _) (Nat.zero_le _) (⟨by unfold gz_wh; rw [decide_eq_false h4]; rfl, rfl⟩)
    · replace c5 : ¬ (l < 4) := fun q9 => c5 ((zlt (k := l) (m := 4) (by omega) (by omega)).mpr q9)
      -- end 2: stop, pc 8, locals [(0, .ref (4)), (1, .int (Int32.ofNat W))]
      exact absurd (by omega) c5
theorem c_faultPlace (hl : I 4 1 = Int32.ofNat l) (h8 : l ≤ 48) : gw_E V 42 (0, [(0, .ref 4)], [], gS n I J, 0, 0) (fun v w' => ∃ W y, gz_wT (I 5) l W ∧ gz_fp (I 5) l W y ∧ v = some (.int y) ∧ w' = gS n I J) := by
  have lp : ∀ W, gz_wT (I 5) l W → ∀ (m k : Nat), m + k = l → (∀ j, j < k → gz_fi (I 5) l W j = true) → gw_E V 42 (7, [(0, .ref 4), (1, .int (Int32.ofNat W)), (2, .int (Int32.ofNat k))], [], gS n I J, 0, 0) (fun v w' => ∃ W y, gz_wT (I 5) l W ∧ gz_fp (I 5) l W y ∧ v = some (.int y) ∧ w' = gS n I J) := by
    intro W hT m
    have hW8 : W ≤ 8 := hT.1
    induction m with
    | zero =>
      intro k hk g1
      obtain rfl : k = l := by omega
      refine gs_iload_n (pc := 7) (gd gk_42 5 rfl) rfl ?_
      refine gs_aload_n (pc := 8) (gd gk_42 6 rfl) rfl ?_
      refine gs_getI (pc := 9) (gd gk_42 7 rfl) rfl rfl ?_
      refine gs_as (Int32.ofNat k) (hl) ?_
      refine gs_icmp_ge (pc := 12) (gd gk_42 8 rfl) (fun c12 => ?_) (fun c12 => ?_)
      · replace c12 : k ≤ k := (zle (k := k) (m := k) (by omega) (by omega)).mp c12
        refine gs_aload_n (pc := 32) (gd gk_42 18 rfl) rfl ?_
        refine gs_iload_n (pc := 33) (gd gk_42 19 rfl) rfl ?_
        refine gs_callV (as := [.int (Int32.ofNat W)]) (pc := 34) (gd gk_42 20 rfl) (by decide) rfl (by decide) rfl rfl (Nat.le_of_ble_eq_true rfl) gq_42_43 (Nat.le_of_ble_eq_true rfl) (c_isWhole W hT hl h8) (fun r_34 w_34 q_34 => ?_)
        obtain ⟨rfl, rfl⟩ := q_34
        refine gs_if_eq (pc := 37) (gd gk_42 21 rfl) (fun c37 => ?_) (fun c37 => ?_)
        · refine gs_aload_n (pc := 45) (gd gk_42 24 rfl) rfl ?_
          refine gs_getI (pc := 46) (gd gk_42 25 rfl) rfl rfl ?_
          refine gs_as (Int32.ofNat k) (hl) ?_
          -- end 1: ireturn Int32.ofNat k, pc 49, locals [(0, .ref (4)), (1, .int (Int32.ofNat W)), (2, .int (Int32.ofNat k))]
          exact gs_iret (pc := 49) (gd gk_42 26 rfl) rfl (rfl) (Nat.zero_le _) (Nat.zero_le _) (⟨W, _, hT, .inr ⟨g1, by rw [if_neg (by rw [gz_b_eq.mp c37]; decide)]⟩, rfl, rfl⟩)
        · refine gs_bipush (pc := 40) (gd gk_42 22 rfl) (-99) rfl ?_
          refine gs_goto (pc := 42) (gd gk_42 23 rfl) ?_
          -- end 2: ireturn (-99), pc 49, locals [(0, .ref (4)), (1, .int (Int32.ofNat W)), (2, .int (Int32.ofNat k))]
          exact gs_iret (pc := 49) (gd gk_42 26 rfl) rfl (rfl) (Nat.zero_le _) (Nat.zero_le _) (⟨W, _, hT, .inr ⟨g1, by rw [if_pos (gz_b_ne.mp c37)]⟩, rfl, rfl⟩)
      · replace c12 : ¬ (k ≤ k) := fun q9 => c12 ((zle (k := k) (m := k) (by omega) (by omega)).mpr q9)
        -- end 3: stop, pc 15, locals [(0, .ref (4)), (1, .int (Int32.ofNat W)), (2, .int (Int32.ofNat k))]
        exact absurd (Nat.le_refl _) c12
    | succ m ih =>
      intro k hk g1
      refine gs_iload_n (pc := 7) (gd gk_42 5 rfl) rfl ?_
      refine gs_aload_n (pc := 8) (gd gk_42 6 rfl) rfl ?_
      refine gs_getI (pc := 9) (gd gk_42 7 rfl) rfl rfl ?_
      refine gs_as (Int32.ofNat l) (hl) ?_
      refine gs_icmp_ge (pc := 12) (gd gk_42 8 rfl) (fun c12 => ?_) (fun c12 => ?_)
      · replace c12 : l ≤ k := (zle (k := l) (m := k) (by omega) (by omega)).mp c12
        -- end 1: stop, pc 32, locals [(0, .ref (4)), (1, .int (Int32.ofNat W)), (2, .int (Int32.ofNat k))]
        exact absurd c12 (by omega)
      · replace c12 : ¬ (l ≤ k) := fun q9 => c12 ((zle (k := l) (m := k) (by omega) (by omega)).mpr q9)
        refine gs_aload_n (pc := 15) (gd gk_42 9 rfl) rfl ?_
        refine gs_iload_n (pc := 16) (gd gk_42 10 rfl) rfl ?_
        refine gs_iload_n (pc := 17) (gd gk_42 11 rfl) rfl ?_
        refine gs_callV (as := [.int (Int32.ofNat k), .int (Int32.ofNat W)]) (pc := 18) (gd gk_42 12 rfl) (by decide) rfl (by decide) rfl rfl (Nat.le_of_ble_eq_true rfl) gq_42_44 (Nat.le_of_ble_eq_true rfl) (c_fits k W (by omega) hW8 hl h8) (fun r_18 w_18 q_18 => ?_)
        obtain ⟨rfl, rfl⟩ := q_18
        refine gs_if_ne (pc := 21) (gd gk_42 13 rfl) (fun c21 => ?_) (fun c21 => ?_)
        · refine gs_iinc (ls2 := fun v => [(0, .ref (4)), (1, .int (Int32.ofNat W)), (2, .int (v))]) (pc := 26) (gd gk_42 16 rfl) rfl (by rw [gL_42]; decide) (fun _ => rfl) (1) rfl (fun v2_1 hv2_1 => ?_)
          obtain rfl : v2_1 = Int32.ofNat (k + 1) := hv2_1.trans (by first | rfl | (simp only [Int32.ofNat_add, Int32.ofNat_mul]; rfl) | (simp only [Int32.ofNat_add, Int32.ofNat_mul]))
          refine gs_goto (pc := 29) (gd gk_42 17 rfl) ?_
          -- end 2: stop, pc 7, locals [(0, .ref (4)), (1, .int (Int32.ofNat W)), (2, .int (Int32.ofNat (k + 1)))]
          refine ih (k + 1) (by omega) (fun j hj => ?_)
          by_cases e : j = k
          · rw [e]; exact gz_b_ne.mp c21
          · exact g1 j (by omega)
        · refine gs_iload_n (pc := 24) (gd gk_42 14 rfl) rfl ?_
          -- end 3: ireturn Int32.ofNat k, pc 25, locals [(0, .ref (4)), (1, .int (Int32.ofNat W)), (2, .int (Int32.ofNat k))]
          exact gs_iret (pc := 25) (gd gk_42 15 rfl) rfl (rfl) (Nat.zero_le _) (Nat.zero_le _) (⟨W, _, hT, .inl ⟨k, by omega, gz_b_eq.mp c21, g1, rfl⟩, rfl, rfl⟩)
  refine gs_aload_n (pc := 0) (gd gk_42 0 rfl) rfl ?_
  refine gs_callV (as := []) (pc := 1) (gd gk_42 1 rfl) (by decide) rfl (by decide) rfl rfl (Nat.le_of_ble_eq_true rfl) gq_42_41 (Nat.le_of_ble_eq_true rfl) (c_windsTold hl h8) (fun r_1 w_1 q_1 => ?_)
  obtain ⟨W, hT, rfl, rfl⟩ := q_1
  refine gs_istore_n (ls2 := fun v => [(0, .ref (4)), (1, .int (v))]) (pc := 4) (gd gk_42 2 rfl) (by rw [gL_42]; decide) (fun _ => rfl) (fun v1_1 hv1_1 => ?_)
  obtain rfl : v1_1 = Int32.ofNat W := hv1_1.trans (by first | rfl | (simp only [Int32.ofNat_add, Int32.ofNat_mul]; rfl) | (simp only [Int32.ofNat_add, Int32.ofNat_mul]))
  refine gs_iconst (pc := 5) (gd gk_42 3 rfl) (0) rfl ?_
  refine gs_istore_n (ls2 := fun v => [(0, .ref (4)), (1, .int (Int32.ofNat W)), (2, .int (v))]) (pc := 6) (gd gk_42 4 rfl) (by rw [gL_42]; decide) (fun _ => rfl) (fun v2_1 hv2_1 => ?_)
  obtain rfl : v2_1 = Int32.ofNat 0 := hv2_1.trans (by first | rfl | (simp only [Int32.ofNat_add, Int32.ofNat_mul]; rfl) | (simp only [Int32.ofNat_add, Int32.ofNat_mul]))
  -- end 1: stop, pc 7, locals [(0, .ref (4)), (1, .int (Int32.ofNat W)), (2, .int (Int32.ofNat 0))]
  exact lp W hT l 0 (by omega) (fun j hj => absurd hj (Nat.not_lt_zero _))
theorem c_fault (hl : I 4 1 = Int32.ofNat l) (h8 : l ≤ 48) : gw_E V 66 (0, [(0, .ref 3)], [], gS n I J, 0, 0) (fun v w' => ∃ W y, gz_wT (I 5) l W ∧ gz_fp (I 5) l W y ∧ v = some (.int y) ∧ w' = gS n I J) := by
  refine gs_aload_n (pc := 0) (gd gk_66 0 rfl) rfl ?_
  refine gs_getR (r := 4) (pc := 1) (gd gk_66 1 rfl) rfl rfl rfl (by decide) ?_
  refine gs_callV (as := []) (pc := 4) (gd gk_66 2 rfl) (by decide) rfl (by decide) rfl rfl (Nat.le_of_ble_eq_true rfl) gq_66_42 (Nat.le_of_ble_eq_true rfl) (c_faultPlace hl h8) (fun r_4 w_4 q_4 => ?_)
  obtain ⟨W, y, hT, hF, rfl, rfl⟩ := q_4
  -- end 1: ireturn y, pc 7, locals [(0, .ref (3))]
  exact gs_iret (pc := 7) (gd gk_66 3 rfl) rfl (rfl) (Nat.zero_le _) (Nat.zero_le _) (⟨W, y, hT, hF, rfl, rfl⟩)
end
