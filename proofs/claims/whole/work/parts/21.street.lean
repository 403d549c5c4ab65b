/-! ===== a street in numbers, and the class's Street and Walk ===== -/
/-- the class's street: 0 baker, strength, cost, winds, noses; 1 winds; 2 cells; 3 wants; 4 prices; 5 contracts -/
def gz_S (I : Nat → Nat → Int32) : Nat → Nat → Int32 := fun a k => if a ≤ 5 then I (6 + a) k else 0
theorem gz_S_eq {I I1 : Nat → Nat → Int32} (h : ∀ p, 6 ≤ p → p ≤ 11 → I1 p = I p) : gz_S I1 = gz_S I := by
  funext a k
  unfold gz_S
  by_cases q : a ≤ 5
  · rw [if_pos q, if_pos q, h (6 + a) (by omega) (by omega)]
  · rw [if_neg q, if_neg q]
def gq_ok (σ : Nat → Nat → Int32) (W N : Nat) : Prop := σ 0 3 = Int32.ofNat W ∧ W ≤ 8 ∧ σ 0 4 = Int32.ofNat N ∧ N ≤ 6 ∧ (0 ≤ σ 0 0 ∧ σ 0 0 ≤ 9) ∧ (1 ≤ σ 0 1 ∧ σ 0 1 ≤ 9) ∧ (0 ≤ σ 0 2 ∧ σ 0 2 ≤ 9) ∧ (∀ h, h < W → σ 1 h = -1 ∨ σ 1 h = 0 ∨ σ 1 h = 1) ∧ ∀ n, n < N → (0 ≤ σ 2 n ∧ σ 2 n ≤ 9) ∧ (1 ≤ σ 3 n ∧ σ 3 n ≤ 9) ∧ (0 ≤ σ 4 n ∧ σ 4 n ≤ 9) ∧ (0 ≤ σ 5 n ∧ σ 5 n ≤ 3)
def gq_has (σ : Nat → Nat → Int32) (sm : Nat → Int32) (n : Nat) : Bool := decide (σ 3 n ≤ sm (σ 2 n).toNatClampNeg)
def gq_due (σ : Nat → Nat → Int32) (n : Nat) (h e : Bool) : Int32 := if σ 5 n = 0 then (if h then σ 4 n else 0) else if σ 5 n = 1 then (if h then 0 else -σ 4 n) else if σ 5 n = 2 then (if h && e then σ 4 n else 0) else (if h then -σ 4 n else 0)
def gq_who (σ : Nat → Nat → Int32) (sm : Nat → Int32) : Nat → Int32
  | 0 => 0
  | k + 1 => if gq_has σ sm k then gq_who σ sm k ||| (1 <<< (Int32.ofNat k &&& 31)) else gq_who σ sm k
theorem c_due {V : gw_V} {n : Nat} {I : Nat → Nat → Int32} {J : Nat → Nat → Int64} (k : Nat) (hk : k < 6) (bh be : Bool) (hc : 0 ≤ I 11 k ∧ I 11 k ≤ 3) : gw_E V 36 (0, [(0, .ref 6), (1, .int (Int32.ofNat k)), (2, .int (gz_b bh)), (3, .int (gz_b be))], [], gS n I J, 0, 0) (fun v w' => v = some (.int (gq_due (gz_S I) k bh be)) ∧ w' = gS n I J) := by
  refine gs_aload_n (pc := 0) (gd gk_36 0 rfl) rfl ?_
  refine gs_getR (r := 11) (pc := 1) (gd gk_36 1 rfl) rfl rfl rfl (by decide) ?_
  refine gs_iload_n (pc := 4) (gd gk_36 2 rfl) rfl ?_
  refine gs_ialoadK (k) (6) (pc := 5) (gd gk_36 3 rfl) (Or.inl rfl) rfl (by decide) (by first | rfl | (simp only [Int32.ofNat_add, Int32.ofNat_mul]; rfl) | (simp only [Int32.ofNat_add, Int32.ofNat_mul])) (by omega) ?_
  -- end 1: switch, pc 6, locals [(0, .ref (6)), (1, .int (Int32.ofNat k)), (2, .int (gz_b bh)), (3, .int (gz_b be))]
  skip
  have h4 : I 11 k = 0 ∨ I 11 k = 1 ∨ I 11 k = 2 ∨ I 11 k = 3 := by grind
  rcases h4 with e | e | e | e
  · rw [e]
    refine gs_tblIn (off := 26) (pc := 6) 32 (gd gk_36 4 rfl) (by decide) (by decide) rfl (by decide) ?_
    refine gs_iload_n (pc := 32) (gd gk_36 5 rfl) rfl ?_
    refine gs_if_eq (pc := 33) (gd gk_36 6 rfl) (fun c33 => ?_) (fun c33 => ?_)
    · refine gs_iconst (pc := 45) (gd gk_36 12 rfl) (0) rfl ?_
      -- end 1: ireturn 0, pc 46, locals [(0, .ref (6)), (1, .int (Int32.ofNat k)), (2, .int (gz_b bh)), (3, .int (gz_b be))]
      exact gs_iret (pc := 46) (gd gk_36 13 rfl) rfl (rfl) (Nat.zero_le _) (Nat.zero_le _) (⟨by simp [gq_due, gz_S, e, gz_b_eq.mp c33], rfl⟩)
    · refine gs_aload_n (pc := 36) (gd gk_36 7 rfl) rfl ?_
      refine gs_getR (r := 10) (pc := 37) (gd gk_36 8 rfl) rfl rfl rfl (by decide) ?_
      refine gs_iload_n (pc := 40) (gd gk_36 9 rfl) rfl ?_
      refine gs_ialoadK (k) (6) (pc := 41) (gd gk_36 10 rfl) (Or.inl rfl) rfl (by decide) (by first | rfl | (simp only [Int32.ofNat_add, Int32.ofNat_mul]; rfl) | (simp only [Int32.ofNat_add, Int32.ofNat_mul])) (by omega) ?_
      refine gs_goto (pc := 42) (gd gk_36 11 rfl) ?_
      -- end 2: ireturn (I 10 k), pc 46, locals [(0, .ref (6)), (1, .int (Int32.ofNat k)), (2, .int (gz_b bh)), (3, .int (gz_b be))]
      exact gs_iret (pc := 46) (gd gk_36 13 rfl) rfl (rfl) (Nat.zero_le _) (Nat.zero_le _) (⟨by simp [gq_due, gz_S, e, gz_b_ne.mp c33], rfl⟩)
  · rw [e]
    refine gs_tblIn (off := 41) (pc := 6) 47 (gd gk_36 4 rfl) (by decide) (by decide) rfl (by decide) ?_
    refine gs_iload_n (pc := 47) (gd gk_36 14 rfl) rfl ?_
    refine gs_if_eq (pc := 48) (gd gk_36 15 rfl) (fun c48 => ?_) (fun c48 => ?_)
    · refine gs_aload_n (pc := 55) (gd gk_36 18 rfl) rfl ?_
      refine gs_getR (r := 10) (pc := 56) (gd gk_36 19 rfl) rfl rfl rfl (by decide) ?_
      refine gs_iload_n (pc := 59) (gd gk_36 20 rfl) rfl ?_
      refine gs_ialoadK (k) (6) (pc := 60) (gd gk_36 21 rfl) (Or.inl rfl) rfl (by decide) (by first | rfl | (simp only [Int32.ofNat_add, Int32.ofNat_mul]; rfl) | (simp only [Int32.ofNat_add, Int32.ofNat_mul])) (by omega) ?_
      refine gs_ineg (pc := 61) (gd gk_36 22 rfl) ?_
      -- end 1: ireturn (-(I 10 k)), pc 62, locals [(0, .ref (6)), (1, .int (Int32.ofNat k)), (2, .int (gz_b bh)), (3, .int (gz_b be))]
      exact gs_iret (pc := 62) (gd gk_36 23 rfl) rfl (rfl) (Nat.zero_le _) (Nat.zero_le _) (⟨by simp [gq_due, gz_S, e, gz_b_eq.mp c48], rfl⟩)
    · refine gs_iconst (pc := 51) (gd gk_36 16 rfl) (0) rfl ?_
      refine gs_goto (pc := 52) (gd gk_36 17 rfl) ?_
      -- end 2: ireturn 0, pc 62, locals [(0, .ref (6)), (1, .int (Int32.ofNat k)), (2, .int (gz_b bh)), (3, .int (gz_b be))]
      exact gs_iret (pc := 62) (gd gk_36 23 rfl) rfl (rfl) (Nat.zero_le _) (Nat.zero_le _) (⟨by simp [gq_due, gz_S, e, gz_b_ne.mp c48], rfl⟩)
  · rw [e]
    refine gs_tblIn (off := 57) (pc := 6) 63 (gd gk_36 4 rfl) (by decide) (by decide) rfl (by decide) ?_
    refine gs_iload_n (pc := 63) (gd gk_36 24 rfl) rfl ?_
    refine gs_if_eq (pc := 64) (gd gk_36 25 rfl) (fun c64 => ?_) (fun c64 => ?_)
    · refine gs_iconst (pc := 80) (gd gk_36 33 rfl) (0) rfl ?_
      -- end 1: ireturn 0, pc 81, locals [(0, .ref (6)), (1, .int (Int32.ofNat k)), (2, .int (gz_b bh)), (3, .int (gz_b be))]
      exact gs_iret (pc := 81) (gd gk_36 34 rfl) rfl (rfl) (Nat.zero_le _) (Nat.zero_le _) (⟨by simp [gq_due, gz_S, e, gz_b_eq.mp c64], rfl⟩)
    · refine gs_iload_n (pc := 67) (gd gk_36 26 rfl) rfl ?_
      refine gs_if_eq (pc := 68) (gd gk_36 27 rfl) (fun c68 => ?_) (fun c68 => ?_)
      · refine gs_iconst (pc := 80) (gd gk_36 33 rfl) (0) rfl ?_
        -- end 2: ireturn 0, pc 81, locals [(0, .ref (6)), (1, .int (Int32.ofNat k)), (2, .int (gz_b bh)), (3, .int (gz_b be))]
        exact gs_iret (pc := 81) (gd gk_36 34 rfl) rfl (rfl) (Nat.zero_le _) (Nat.zero_le _) (⟨by simp [gq_due, gz_S, e, gz_b_ne.mp c64, gz_b_eq.mp c68], rfl⟩)
      · refine gs_aload_n (pc := 71) (gd gk_36 28 rfl) rfl ?_
        refine gs_getR (r := 10) (pc := 72) (gd gk_36 29 rfl) rfl rfl rfl (by decide) ?_
        refine gs_iload_n (pc := 75) (gd gk_36 30 rfl) rfl ?_
        refine gs_ialoadK (k) (6) (pc := 76) (gd gk_36 31 rfl) (Or.inl rfl) rfl (by decide) (by first | rfl | (simp only [Int32.ofNat_add, Int32.ofNat_mul]; rfl) | (simp only [Int32.ofNat_add, Int32.ofNat_mul])) (by omega) ?_
        refine gs_goto (pc := 77) (gd gk_36 32 rfl) ?_
        -- end 3: ireturn (I 10 k), pc 81, locals [(0, .ref (6)), (1, .int (Int32.ofNat k)), (2, .int (gz_b bh)), (3, .int (gz_b be))]
        exact gs_iret (pc := 81) (gd gk_36 34 rfl) rfl (rfl) (Nat.zero_le _) (Nat.zero_le _) (⟨by simp [gq_due, gz_S, e, gz_b_ne.mp c64, gz_b_ne.mp c68], rfl⟩)
  · rw [e]
    refine gs_tblOut (pc := 6) 82 (gd gk_36 4 rfl) (by decide) (by decide) ?_
    refine gs_iload_n (pc := 82) (gd gk_36 35 rfl) rfl ?_
    refine gs_if_eq (pc := 83) (gd gk_36 36 rfl) (fun c83 => ?_) (fun c83 => ?_)
    · refine gs_iconst (pc := 96) (gd gk_36 43 rfl) (0) rfl ?_
      -- end 1: ireturn 0, pc 97, locals [(0, .ref (6)), (1, .int (Int32.ofNat k)), (2, .int (gz_b bh)), (3, .int (gz_b be))]
      exact gs_iret (pc := 97) (gd gk_36 44 rfl) rfl (rfl) (Nat.zero_le _) (Nat.zero_le _) (⟨by simp [gq_due, gz_S, e, gz_b_eq.mp c83], rfl⟩)
    · refine gs_aload_n (pc := 86) (gd gk_36 37 rfl) rfl ?_
      refine gs_getR (r := 10) (pc := 87) (gd gk_36 38 rfl) rfl rfl rfl (by decide) ?_
      refine gs_iload_n (pc := 90) (gd gk_36 39 rfl) rfl ?_
      refine gs_ialoadK (k) (6) (pc := 91) (gd gk_36 40 rfl) (Or.inl rfl) rfl (by decide) (by first | rfl | (simp only [Int32.ofNat_add, Int32.ofNat_mul]; rfl) | (simp only [Int32.ofNat_add, Int32.ofNat_mul])) (by omega) ?_
      refine gs_ineg (pc := 92) (gd gk_36 41 rfl) ?_
      refine gs_goto (pc := 93) (gd gk_36 42 rfl) ?_
      -- end 2: ireturn (-(I 10 k)), pc 97, locals [(0, .ref (6)), (1, .int (Int32.ofNat k)), (2, .int (gz_b bh)), (3, .int (gz_b be))]
      exact gs_iret (pc := 97) (gd gk_36 44 rfl) rfl (rfl) (Nat.zero_le _) (Nat.zero_le _) (⟨by simp [gq_due, gz_S, e, gz_b_ne.mp c83], rfl⟩)
theorem c_nose {V : gw_V} {n : Nat} {I : Nat → Nat → Int32} {J : Nat → Nat → Int64} (x : Int32) (h6 : 0 ≤ I 6 4 ∧ I 6 4 ≤ 6) : gw_E V 34 (0, [(0, .ref 6), (1, .int x)], [], gS n I J, 0, 0) (fun v w' => v = some (.int (gz_b (gz_rg x 0 (I 6 4 - 1)))) ∧ w' = gS n I J) := by
  refine gs_iload_n (pc := 0) (gd gk_34 0 rfl) rfl ?_
  refine gs_if_lt (pc := 1) (gd gk_34 1 rfl) (fun c1 => ?_) (fun c1 => ?_)
  · refine gs_iconst (pc := 16) (gd gk_34 8 rfl) (0) rfl ?_
    -- end 1: ireturn 0, pc 17, locals [(0, .ref (6)), (1, .int (x))]
    exact gs_iret (pc := 17) (gd gk_34 9 rfl) rfl (rfl) (Nat.zero_le _) (Nat.zero_le _) (⟨by rw [gz_rg_f.mpr (by grind)]; rfl, rfl⟩)
  · refine gs_iload_n (pc := 4) (gd gk_34 2 rfl) rfl ?_
    refine gs_aload_n (pc := 5) (gd gk_34 3 rfl) rfl ?_
    refine gs_getI (pc := 6) (gd gk_34 4 rfl) rfl rfl ?_
    refine gs_icmp_ge (pc := 9) (gd gk_34 5 rfl) (fun c9 => ?_) (fun c9 => ?_)
    · refine gs_iconst (pc := 16) (gd gk_34 8 rfl) (0) rfl ?_
      -- end 2: ireturn 0, pc 17, locals [(0, .ref (6)), (1, .int (x))]
      exact gs_iret (pc := 17) (gd gk_34 9 rfl) rfl (rfl) (Nat.zero_le _) (Nat.zero_le _) (⟨by rw [gz_rg_f.mpr (by grind)]; rfl, rfl⟩)
    · refine gs_iconst (pc := 12) (gd gk_34 6 rfl) (1) rfl ?_
      refine gs_goto (pc := 13) (gd gk_34 7 rfl) ?_
      -- end 3: ireturn 1, pc 17, locals [(0, .ref (6)), (1, .int (x))]
      exact gs_iret (pc := 17) (gd gk_34 9 rfl) rfl (rfl) (Nat.zero_le _) (Nat.zero_le _) (⟨by rw [gz_rg_t.mpr (by grind)]; rfl, rfl⟩)
theorem c_who {V : gw_V} {n W N : Nat} {I : Nat → Nat → Int32} {J : Nat → Nat → Int64} (a : Nat) (ht : gw_T (gS n I J) a = 12) (hz : gw_N (gS n I J) a = 10) (hok : gq_ok (gz_S I) W N) : gw_E V 35 (0, [(0, .ref 6), (1, .ref a)], [], gS n I J, 0, 0) (fun v w' => v = some (.int (gq_who (gz_S I) (I a) N)) ∧ w' = gS n I J) := by
  obtain ⟨-, -, hN, hN6, -, -, -, -, hns⟩ := hok
  have hN : I 6 4 = Int32.ofNat N := hN
  have key : ∀ (m k : Nat), m + k = N → ∀ x, x = gq_who (gz_S I) (I a) k → gw_E V 35 (4, [(0, .ref 6), (1, .ref a), (2, .int x), (3, .int (Int32.ofNat k))], [], gS n I J, 0, 0) (fun v w' => v = some (.int (gq_who (gz_S I) (I a) N)) ∧ w' = gS n I J) := by
    intro m
    induction m with
    | zero =>
      intro k hk x hx
      obtain rfl : k = N := by omega
      refine gs_iload_n (pc := 4) (gd gk_35 4 rfl) rfl ?_
      refine gs_aload_n (pc := 5) (gd gk_35 5 rfl) rfl ?_
      refine gs_getI (pc := 6) (gd gk_35 6 rfl) rfl rfl ?_
      refine gs_as (Int32.ofNat k) (hN) ?_
      refine gs_icmp_ge (pc := 9) (gd gk_35 7 rfl) (fun c9 => ?_) (fun c9 => ?_)
      · replace c9 : k ≤ k := (zle (k := k) (m := k) (by omega) (by omega)).mp c9
        refine gs_iload_n (pc := 41) (gd gk_35 27 rfl) rfl ?_
        -- end 1: ireturn x, pc 42, locals [(0, .ref (6)), (1, .ref (a)), (2, .int (x)), (3, .int (Int32.ofNat k))]
        exact gs_iret (pc := 42) (gd gk_35 28 rfl) rfl (rfl) (Nat.zero_le _) (Nat.zero_le _) (⟨by rw [hx], rfl⟩)
      · replace c9 : ¬ (k ≤ k) := fun q9 => c9 ((zle (k := k) (m := k) (by omega) (by omega)).mpr q9)
        -- end 2: stop, pc 12, locals [(0, .ref (6)), (1, .ref (a)), (2, .int (x)), (3, .int (Int32.ofNat k))]
        exact absurd (Nat.le_refl k) c9
    | succ m ih =>
      intro k hk x hx
      refine gs_iload_n (pc := 4) (gd gk_35 4 rfl) rfl ?_
      refine gs_aload_n (pc := 5) (gd gk_35 5 rfl) rfl ?_
      refine gs_getI (pc := 6) (gd gk_35 6 rfl) rfl rfl ?_
      refine gs_as (Int32.ofNat N) (hN) ?_
      refine gs_icmp_ge (pc := 9) (gd gk_35 7 rfl) (fun c9 => ?_) (fun c9 => ?_)
      · replace c9 : N ≤ k := (zle (k := N) (m := k) (by omega) (by omega)).mp c9
        refine gs_iload_n (pc := 41) (gd gk_35 27 rfl) rfl ?_
        -- end 1: ireturn x, pc 42, locals [(0, .ref (6)), (1, .ref (a)), (2, .int (x)), (3, .int (Int32.ofNat k))]
        exact absurd c9 (by omega)
      · replace c9 : ¬ (N ≤ k) := fun q9 => c9 ((zle (k := N) (m := k) (by omega) (by omega)).mpr q9)
        obtain ⟨⟨h20, h21⟩, -, -, -⟩ := hns k (by omega)
        have h20 : 0 ≤ I 8 k := h20
        have h21 : I 8 k ≤ 9 := h21
        refine gs_aload_n (pc := 12) (gd gk_35 8 rfl) rfl ?_
        refine gs_aload_n (pc := 13) (gd gk_35 9 rfl) rfl ?_
        refine gs_getR (r := 8) (pc := 14) (gd gk_35 10 rfl) rfl rfl rfl (by decide) ?_
        refine gs_iload_n (pc := 17) (gd gk_35 11 rfl) rfl ?_
        refine gs_ialoadK (k) (6) (pc := 18) (gd gk_35 12 rfl) (Or.inl rfl) rfl (by decide) (by first | rfl | (simp only [Int32.ofNat_add, Int32.ofNat_mul]; rfl) | (simp only [Int32.ofNat_add, Int32.ofNat_mul])) (by omega) ?_
        refine gs_iaload (pc := 19) (gd gk_35 13 rfl) (Or.inl ht) (by rw [hz]; exact vin (n := 10) h20 (by grind) (by decide)) ?_
        refine gs_aload_n (pc := 20) (gd gk_35 14 rfl) rfl ?_
        refine gs_getR (r := 9) (pc := 21) (gd gk_35 15 rfl) rfl rfl rfl (by decide) ?_
        refine gs_iload_n (pc := 24) (gd gk_35 16 rfl) rfl ?_
        refine gs_ialoadK (k) (6) (pc := 25) (gd gk_35 17 rfl) (Or.inl rfl) rfl (by decide) (by first | rfl | (simp only [Int32.ofNat_add, Int32.ofNat_mul]; rfl) | (simp only [Int32.ofNat_add, Int32.ofNat_mul])) (by omega) ?_
        refine gs_icmp_lt (pc := 26) (gd gk_35 18 rfl) (fun c26 => ?_) (fun c26 => ?_)
        · refine gs_iinc (ls2 := fun v => [(0, .ref (6)), (1, .ref (a)), (2, .int (x)), (3, .int (v))]) (pc := 35) (gd gk_35 25 rfl) rfl (by rw [gL_35]; decide) (fun _ => rfl) (1) rfl (fun v3_1 hv3_1 => ?_)
          obtain rfl : v3_1 = Int32.ofNat (k + 1) := hv3_1.trans (by first | rfl | (simp only [Int32.ofNat_add, Int32.ofNat_mul]; rfl) | (simp only [Int32.ofNat_add, Int32.ofNat_mul]))
          refine gs_goto (pc := 38) (gd gk_35 26 rfl) ?_
          -- end 2: stop, pc 4, locals [(0, .ref (6)), (1, .ref (a)), (2, .int (x)), (3, .int (Int32.ofNat (k + 1)))]
          have h9 : gq_has (gz_S I) (I a) k = false := decide_eq_false (fun q9 => Int32.not_lt.mpr q9 c26)
          exact ih (k + 1) (by omega) _ (by rw [hx]; simp [gq_who, h9])
        · refine gs_iload_n (pc := 29) (gd gk_35 19 rfl) rfl ?_
          refine gs_iconst (pc := 30) (gd gk_35 20 rfl) (1) rfl ?_
          refine gs_iload_n (pc := 31) (gd gk_35 21 rfl) rfl ?_
          refine gs_ishl (pc := 32) (gd gk_35 22 rfl) ?_
          refine gs_ior (pc := 33) (gd gk_35 23 rfl) ?_
          refine gs_istore_n (ls2 := fun v => [(0, .ref (6)), (1, .ref (a)), (2, .int (v)), (3, .int (Int32.ofNat k))]) (pc := 34) (gd gk_35 24 rfl) (by rw [gL_35]; decide) (fun _ => rfl) (fun v2_1 hv2_1 => ?_)
          refine gs_iinc (ls2 := fun v => [(0, .ref (6)), (1, .ref (a)), (2, .int (v2_1)), (3, .int (v))]) (pc := 35) (gd gk_35 25 rfl) rfl (by rw [gL_35]; decide) (fun _ => rfl) (1) rfl (fun v3_2 hv3_2 => ?_)
          obtain rfl : v3_2 = Int32.ofNat (k + 1) := hv3_2.trans (by first | rfl | (simp only [Int32.ofNat_add, Int32.ofNat_mul]; rfl) | (simp only [Int32.ofNat_add, Int32.ofNat_mul]))
          refine gs_goto (pc := 38) (gd gk_35 26 rfl) ?_
          -- end 3: stop, pc 4, locals [(0, .ref (6)), (1, .ref (a)), (2, .int (v2_1)), (3, .int (Int32.ofNat (k + 1)))]
          have h9 : gq_has (gz_S I) (I a) k = true := decide_eq_true (Int32.not_lt.mp c26)
          exact ih (k + 1) (by omega) _ (by rw [hv2_1, hx]; simp [gq_who, h9])
  refine gs_iconst (pc := 0) (gd gk_35 0 rfl) (0) rfl ?_
  refine gs_istore_n (ls2 := fun v => [(0, .ref (6)), (1, .ref (a)), (2, .int (v))]) (pc := 1) (gd gk_35 1 rfl) (by rw [gL_35]; decide) (fun _ => rfl) (fun v2_1 hv2_1 => ?_)
  obtain rfl : v2_1 = Int32.ofNat 0 := hv2_1.trans (by first | rfl | (simp only [Int32.ofNat_add, Int32.ofNat_mul]; rfl) | (simp only [Int32.ofNat_add, Int32.ofNat_mul]))
  refine gs_iconst (pc := 2) (gd gk_35 2 rfl) (0) rfl ?_
  refine gs_istore_n (ls2 := fun v => [(0, .ref (6)), (1, .ref (a)), (2, .int (Int32.ofNat 0)), (3, .int (v))]) (pc := 3) (gd gk_35 3 rfl) (by rw [gL_35]; decide) (fun _ => rfl) (fun v3_1 hv3_1 => ?_)
  obtain rfl : v3_1 = Int32.ofNat 0 := hv3_1.trans (by first | rfl | (simp only [Int32.ofNat_add, Int32.ofNat_mul]; rfl) | (simp only [Int32.ofNat_add, Int32.ofNat_mul]))
  -- end 1: stop, pc 4, locals [(0, .ref (6)), (1, .ref (a)), (2, .int (Int32.ofNat 0)), (3, .int (Int32.ofNat 0))]
  exact key N 0 (by omega) _ rfl
/-- the smell of a cell, a wind on -/
def gq_dr (sm : Nat → Int32) (wd : Int32) (c : Nat) : Int32 := if 0 ≤ Int32.ofNat c - wd ∧ Int32.ofNat c - wd < 10 then (if 0 < sm (Int32.ofNat c - wd).toNatClampNeg then sm (Int32.ofNat c - wd).toNatClampNeg - 1 else 0) else 0
theorem c_drift {V : gw_V} {n : Nat} {I : Nat → Nat → Int32} {J : Nat → Nat → Int64} (a b : Nat) (wd : Int32) (hab : a ≠ b) (ha : gw_T (gS n I J) a = 12) (hza : gw_N (gS n I J) a = 10) (hb : gw_T (gS n I J) b = 12) (hzb : gw_N (gS n I J) b = 10) : gw_E V 55 (0, [(0, .ref a), (1, .ref b), (2, .int wd)], [], gS n I J, 0, 0) (fun v w' => v = none ∧ ∃ I2, w' = gS n I2 J ∧ (∀ c, c < 10 → I2 b c = gq_dr (I a) wd c) ∧ ∀ p, p ≠ b → I2 p = I p) := by
  have key : ∀ (m k : Nat), m + k = 10 → ∀ I1, (∀ c, c < k → I1 b c = gq_dr (I a) wd c) → (∀ p, p ≠ b → I1 p = I p) → gw_E V 55 (2, [(0, .ref a), (1, .ref b), (2, .int wd), (3, .int (Int32.ofNat k))], [], gS n I1 J, 0, 0) (fun v w' => v = none ∧ ∃ I2, w' = gS n I2 J ∧ (∀ c, c < 10 → I2 b c = gq_dr (I a) wd c) ∧ ∀ p, p ≠ b → I2 p = I p) := by
    intro m
    induction m with
    | zero =>
      intro k hk I1 h1 h2
      obtain rfl : k = 10 := by omega
      refine gs_iload_n (pc := 2) (gd gk_55 2 rfl) rfl ?_
      refine gs_bipush (pc := 3) (gd gk_55 3 rfl) (10) rfl ?_
      refine gs_icmp_ge (pc := 5) (gd gk_55 4 rfl) (fun c5 => ?_) (fun c5 => ?_)
      · replace c5 : 10 ≤ 10 := (zle (k := 10) (m := 10) (by omega) (by omega)).mp c5
        -- end 1: return, pc 57, locals [(0, .ref (a)), (1, .ref (b)), (2, .int (wd)), (3, .int (Int32.ofNat 10))]
        exact gs_ret (pc := 57) (gd gk_55 32 rfl) rfl (Nat.zero_le _) (Nat.zero_le _) (⟨rfl, I1, rfl, h1, h2⟩)
      · replace c5 : ¬ (10 ≤ 10) := fun q9 => c5 ((zle (k := 10) (m := 10) (by omega) (by omega)).mpr q9)
        -- end 2: stop, pc 8, locals [(0, .ref (a)), (1, .ref (b)), (2, .int (wd)), (3, .int (Int32.ofNat 10))]
        exact absurd (Nat.le_refl 10) c5
    | succ m ih =>
      intro k hk I1 h1 h2
      have hI : I1 a = I a := h2 a hab
      have step : ∀ I2 x, I2 = gw_u I1 b k x → x = gq_dr (I a) wd k → gw_E V 55 (2, [(0, .ref a), (1, .ref b), (2, .int wd), (3, .int (Int32.ofNat (k + 1)))], [], gS n I2 J, 0, 0) (fun v w' => v = none ∧ ∃ I2, w' = gS n I2 J ∧ (∀ c, c < 10 → I2 b c = gq_dr (I a) wd c) ∧ ∀ p, p ≠ b → I2 p = I p) := by
        intro I2 x e1 e2
        refine ih (k + 1) (by omega) I2 (fun c hc => ?_) (fun p hp => ?_)
        · rw [e1, gw_u_s]
          unfold upd
          by_cases q : c = k
          · rw [if_pos q, q, e2]
          · rw [if_neg q, h1 c (by omega)]
        · rw [e1, gw_u_o hp, h2 p hp]
      refine gs_iload_n (pc := 2) (gd gk_55 2 rfl) rfl ?_
      refine gs_bipush (pc := 3) (gd gk_55 3 rfl) (10) rfl ?_
      refine gs_icmp_ge (pc := 5) (gd gk_55 4 rfl) (fun c5 => ?_) (fun c5 => ?_)
      · replace c5 : 10 ≤ k := (zle (k := 10) (m := k) (by omega) (by omega)).mp c5
        -- end 1: return, pc 57, locals [(0, .ref (a)), (1, .ref (b)), (2, .int (wd)), (3, .int (Int32.ofNat k))]
        exact absurd c5 (by omega)
      · replace c5 : ¬ (10 ≤ k) := fun q9 => c5 ((zle (k := 10) (m := k) (by omega) (by omega)).mpr q9)
        refine gs_iload_n (pc := 8) (gd gk_55 5 rfl) rfl ?_
        refine gs_iload_n (pc := 9) (gd gk_55 6 rfl) rfl ?_
        refine gs_isub (pc := 10) (gd gk_55 7 rfl) ?_
        refine gs_istore (ls2 := fun v => [(0, .ref (a)), (1, .ref (b)), (2, .int (wd)), (3, .int (Int32.ofNat k)), (4, .int (v))]) (pc := 11) (gd gk_55 8 rfl) (by rw [gL_55]; decide) (fun _ => rfl) (fun v4_1 hv4_1 => ?_)
        refine gs_iload (pc := 13) (gd gk_55 9 rfl) rfl ?_
        refine gs_if_lt (pc := 15) (gd gk_55 10 rfl) (fun c15 => ?_) (fun c15 => ?_)
        · refine gs_iconst (pc := 32) (gd gk_55 18 rfl) (0) rfl ?_
          refine gs_istore (ls2 := fun v => [(0, .ref (a)), (1, .ref (b)), (2, .int (wd)), (3, .int (Int32.ofNat k)), (4, .int (v4_1)), (5, .int (v))]) (pc := 33) (gd gk_55 19 rfl) (by rw [gL_55]; decide) (fun _ => rfl) (fun v5_1 hv5_1 => ?_)
          obtain rfl : v5_1 = Int32.ofNat 0 := hv5_1.trans (by first | rfl | (simp only [Int32.ofNat_add, Int32.ofNat_mul]; rfl) | (simp only [Int32.ofNat_add, Int32.ofNat_mul]))
          refine gs_aload_n (pc := 35) (gd gk_55 20 rfl) rfl ?_
          refine gs_iload_n (pc := 36) (gd gk_55 21 rfl) rfl ?_
          refine gs_iload (pc := 37) (gd gk_55 22 rfl) rfl ?_
          refine gs_if_le (pc := 39) (gd gk_55 23 rfl) (fun c39 => ?_) (fun c39 => ?_)
          · replace c39 : 0 ≤ 0 := (zle (k := 0) (m := 0) (by omega) (by omega)).mp c39
            refine gs_iconst (pc := 49) (gd gk_55 28 rfl) (0) rfl ?_
            refine gs_iastoreK (k) (10) gs_sl (pc := 50) (gd gk_55 29 rfl) hb hzb (by decide) (by first | rfl | (simp only [Int32.ofNat_add, Int32.ofNat_mul]; rfl) | (simp only [Int32.ofNat_add, Int32.ofNat_mul])) (by omega) (fun I_1 hI_1 => ?_)
            refine gs_iinc (ls2 := fun v => [(0, .ref (a)), (1, .ref (b)), (2, .int (wd)), (3, .int (v)), (4, .int (v4_1)), (5, .int (Int32.ofNat 0))]) (pc := 51) (gd gk_55 30 rfl) rfl (by rw [gL_55]; decide) (fun _ => rfl) (1) rfl (fun v3_1 hv3_1 => ?_)
            obtain rfl : v3_1 = Int32.ofNat (k + 1) := hv3_1.trans (by first | rfl | (simp only [Int32.ofNat_add, Int32.ofNat_mul]; rfl) | (simp only [Int32.ofNat_add, Int32.ofNat_mul]))
            refine gs_goto (pc := 54) (gd gk_55 31 rfl) ?_
            -- end 2: stop, pc 2, locals [(0, .ref (a)), (1, .ref (b)), (2, .int (wd)), (3, .int (Int32.ofNat (k + 1))), (4, .int (v4_1)), (5, .int (Int32.ofNat 0))]
            refine gs_drop [0, 1, 2, 3] rfl (step _ _ hI_1 ?_)
            unfold gq_dr; rw [← hv4_1, if_neg (by grind)]
          · replace c39 : ¬ (0 ≤ 0) := fun q9 => c39 ((zle (k := 0) (m := 0) (by omega) (by omega)).mpr q9)
            refine gs_iload (pc := 42) (gd gk_55 24 rfl) rfl ?_
            refine gs_iconst (pc := 44) (gd gk_55 25 rfl) (1) rfl ?_
            refine gs_isub (pc := 45) (gd gk_55 26 rfl) ?_
            refine gs_goto (pc := 46) (gd gk_55 27 rfl) ?_
            refine gs_iastoreK (k) (10) gs_sl (pc := 50) (gd gk_55 29 rfl) hb hzb (by decide) (by first | rfl | (simp only [Int32.ofNat_add, Int32.ofNat_mul]; rfl) | (simp only [Int32.ofNat_add, Int32.ofNat_mul])) (by omega) (fun I_2 hI_2 => ?_)
            refine gs_iinc (ls2 := fun v => [(0, .ref (a)), (1, .ref (b)), (2, .int (wd)), (3, .int (v)), (4, .int (v4_1)), (5, .int (Int32.ofNat 0))]) (pc := 51) (gd gk_55 30 rfl) rfl (by rw [gL_55]; decide) (fun _ => rfl) (1) rfl (fun v3_2 hv3_2 => ?_)
            obtain rfl : v3_2 = Int32.ofNat (k + 1) := hv3_2.trans (by first | rfl | (simp only [Int32.ofNat_add, Int32.ofNat_mul]; rfl) | (simp only [Int32.ofNat_add, Int32.ofNat_mul]))
            refine gs_goto (pc := 54) (gd gk_55 31 rfl) ?_
            -- end 3: stop, pc 2, locals [(0, .ref (a)), (1, .ref (b)), (2, .int (wd)), (3, .int (Int32.ofNat (k + 1))), (4, .int (v4_1)), (5, .int (Int32.ofNat 0))]
            exact absurd (Nat.le_refl 0) c39
        · refine gs_iload (pc := 18) (gd gk_55 11 rfl) rfl ?_
          refine gs_bipush (pc := 20) (gd gk_55 12 rfl) (10) rfl ?_
          refine gs_icmp_ge (pc := 22) (gd gk_55 13 rfl) (fun c22 => ?_) (fun c22 => ?_)
          · refine gs_iconst (pc := 32) (gd gk_55 18 rfl) (0) rfl ?_
            refine gs_istore (ls2 := fun v => [(0, .ref (a)), (1, .ref (b)), (2, .int (wd)), (3, .int (Int32.ofNat k)), (4, .int (v4_1)), (5, .int (v))]) (pc := 33) (gd gk_55 19 rfl) (by rw [gL_55]; decide) (fun _ => rfl) (fun v5_2 hv5_2 => ?_)
            obtain rfl : v5_2 = Int32.ofNat 0 := hv5_2.trans (by first | rfl | (simp only [Int32.ofNat_add, Int32.ofNat_mul]; rfl) | (simp only [Int32.ofNat_add, Int32.ofNat_mul]))
            refine gs_aload_n (pc := 35) (gd gk_55 20 rfl) rfl ?_
            refine gs_iload_n (pc := 36) (gd gk_55 21 rfl) rfl ?_
            refine gs_iload (pc := 37) (gd gk_55 22 rfl) rfl ?_
            refine gs_if_le (pc := 39) (gd gk_55 23 rfl) (fun c39 => ?_) (fun c39 => ?_)
            · replace c39 : 0 ≤ 0 := (zle (k := 0) (m := 0) (by omega) (by omega)).mp c39
              refine gs_iconst (pc := 49) (gd gk_55 28 rfl) (0) rfl ?_
              refine gs_iastoreK (k) (10) gs_sl (pc := 50) (gd gk_55 29 rfl) hb hzb (by decide) (by first | rfl | (simp only [Int32.ofNat_add, Int32.ofNat_mul]; rfl) | (simp only [Int32.ofNat_add, Int32.ofNat_mul])) (by omega) (fun I_3 hI_3 => ?_)
              refine gs_iinc (ls2 := fun v => [(0, .ref (a)), (1, .ref (b)), (2, .int (wd)), (3, .int (v)), (4, .int (v4_1)), (5, .int (Int32.ofNat 0))]) (pc := 51) (gd gk_55 30 rfl) rfl (by rw [gL_55]; decide) (fun _ => rfl) (1) rfl (fun v3_3 hv3_3 => ?_)
              obtain rfl : v3_3 = Int32.ofNat (k + 1) := hv3_3.trans (by first | rfl | (simp only [Int32.ofNat_add, Int32.ofNat_mul]; rfl) | (simp only [Int32.ofNat_add, Int32.ofNat_mul]))
              refine gs_goto (pc := 54) (gd gk_55 31 rfl) ?_
              -- end 4: stop, pc 2, locals [(0, .ref (a)), (1, .ref (b)), (2, .int (wd)), (3, .int (Int32.ofNat (k + 1))), (4, .int (v4_1)), (5, .int (Int32.ofNat 0))]
              refine gs_drop [0, 1, 2, 3] rfl (step _ _ hI_3 ?_)
              unfold gq_dr; rw [← hv4_1, if_neg (by grind)]
            · replace c39 : ¬ (0 ≤ 0) := fun q9 => c39 ((zle (k := 0) (m := 0) (by omega) (by omega)).mpr q9)
              refine gs_iload (pc := 42) (gd gk_55 24 rfl) rfl ?_
              refine gs_iconst (pc := 44) (gd gk_55 25 rfl) (1) rfl ?_
              refine gs_isub (pc := 45) (gd gk_55 26 rfl) ?_
              refine gs_goto (pc := 46) (gd gk_55 27 rfl) ?_
              refine gs_iastoreK (k) (10) gs_sl (pc := 50) (gd gk_55 29 rfl) hb hzb (by decide) (by first | rfl | (simp only [Int32.ofNat_add, Int32.ofNat_mul]; rfl) | (simp only [Int32.ofNat_add, Int32.ofNat_mul])) (by omega) (fun I_4 hI_4 => ?_)
              refine gs_iinc (ls2 := fun v => [(0, .ref (a)), (1, .ref (b)), (2, .int (wd)), (3, .int (v)), (4, .int (v4_1)), (5, .int (Int32.ofNat 0))]) (pc := 51) (gd gk_55 30 rfl) rfl (by rw [gL_55]; decide) (fun _ => rfl) (1) rfl (fun v3_4 hv3_4 => ?_)
              obtain rfl : v3_4 = Int32.ofNat (k + 1) := hv3_4.trans (by first | rfl | (simp only [Int32.ofNat_add, Int32.ofNat_mul]; rfl) | (simp only [Int32.ofNat_add, Int32.ofNat_mul]))
              refine gs_goto (pc := 54) (gd gk_55 31 rfl) ?_
              -- end 5: stop, pc 2, locals [(0, .ref (a)), (1, .ref (b)), (2, .int (wd)), (3, .int (Int32.ofNat (k + 1))), (4, .int (v4_1)), (5, .int (Int32.ofNat 0))]
              exact absurd (Nat.le_refl 0) c39
          · refine gs_aload_n (pc := 25) (gd gk_55 14 rfl) rfl ?_
            refine gs_iload (pc := 26) (gd gk_55 15 rfl) rfl ?_
            refine gs_iaload (pc := 28) (gd gk_55 16 rfl) (Or.inl ha) (by show vp_in _ (gw_N (gS n I J) a); rw [hza]; exact vin (n := 10) (by grind) (by grind) (by decide)) ?_
            refine gs_goto (pc := 29) (gd gk_55 17 rfl) ?_
            refine gs_istore (ls2 := fun v => [(0, .ref (a)), (1, .ref (b)), (2, .int (wd)), (3, .int (Int32.ofNat k)), (4, .int (v4_1)), (5, .int (v))]) (pc := 33) (gd gk_55 19 rfl) (by rw [gL_55]; decide) (fun _ => rfl) (fun v5_3 hv5_3 => ?_)
            refine gs_aload_n (pc := 35) (gd gk_55 20 rfl) rfl ?_
            refine gs_iload_n (pc := 36) (gd gk_55 21 rfl) rfl ?_
            refine gs_iload (pc := 37) (gd gk_55 22 rfl) rfl ?_
            refine gs_if_le (pc := 39) (gd gk_55 23 rfl) (fun c39 => ?_) (fun c39 => ?_)
            · refine gs_iconst (pc := 49) (gd gk_55 28 rfl) (0) rfl ?_
              refine gs_iastoreK (k) (10) gs_sl (pc := 50) (gd gk_55 29 rfl) hb hzb (by decide) (by first | rfl | (simp only [Int32.ofNat_add, Int32.ofNat_mul]; rfl) | (simp only [Int32.ofNat_add, Int32.ofNat_mul])) (by omega) (fun I_5 hI_5 => ?_)
              refine gs_iinc (ls2 := fun v => [(0, .ref (a)), (1, .ref (b)), (2, .int (wd)), (3, .int (v)), (4, .int (v4_1)), (5, .int (v5_3))]) (pc := 51) (gd gk_55 30 rfl) rfl (by rw [gL_55]; decide) (fun _ => rfl) (1) rfl (fun v3_5 hv3_5 => ?_)
              obtain rfl : v3_5 = Int32.ofNat (k + 1) := hv3_5.trans (by first | rfl | (simp only [Int32.ofNat_add, Int32.ofNat_mul]; rfl) | (simp only [Int32.ofNat_add, Int32.ofNat_mul]))
              refine gs_goto (pc := 54) (gd gk_55 31 rfl) ?_
              -- end 6: stop, pc 2, locals [(0, .ref (a)), (1, .ref (b)), (2, .int (wd)), (3, .int (Int32.ofNat (k + 1))), (4, .int (v4_1)), (5, .int (v5_3))]
              refine gs_drop [0, 1, 2, 3] rfl (step _ _ hI_5 ?_)
              unfold gq_dr; rw [← hv4_1, if_pos (by grind), ← hI, ← hv5_3, if_neg (by grind)]
            · refine gs_iload (pc := 42) (gd gk_55 24 rfl) rfl ?_
              refine gs_iconst (pc := 44) (gd gk_55 25 rfl) (1) rfl ?_
              refine gs_isub (pc := 45) (gd gk_55 26 rfl) ?_
              refine gs_goto (pc := 46) (gd gk_55 27 rfl) ?_
              refine gs_iastoreK (k) (10) gs_sl (pc := 50) (gd gk_55 29 rfl) hb hzb (by decide) (by first | rfl | (simp only [Int32.ofNat_add, Int32.ofNat_mul]; rfl) | (simp only [Int32.ofNat_add, Int32.ofNat_mul])) (by omega) (fun I_6 hI_6 => ?_)
              refine gs_iinc (ls2 := fun v => [(0, .ref (a)), (1, .ref (b)), (2, .int (wd)), (3, .int (v)), (4, .int (v4_1)), (5, .int (v5_3))]) (pc := 51) (gd gk_55 30 rfl) rfl (by rw [gL_55]; decide) (fun _ => rfl) (1) rfl (fun v3_6 hv3_6 => ?_)
              obtain rfl : v3_6 = Int32.ofNat (k + 1) := hv3_6.trans (by first | rfl | (simp only [Int32.ofNat_add, Int32.ofNat_mul]; rfl) | (simp only [Int32.ofNat_add, Int32.ofNat_mul]))
              refine gs_goto (pc := 54) (gd gk_55 31 rfl) ?_
              -- end 7: stop, pc 2, locals [(0, .ref (a)), (1, .ref (b)), (2, .int (wd)), (3, .int (Int32.ofNat (k + 1))), (4, .int (v4_1)), (5, .int (v5_3))]
              refine gs_drop [0, 1, 2, 3] rfl (step _ _ hI_6 ?_)
              unfold gq_dr; rw [← hv4_1, if_pos (by grind), ← hI, ← hv5_3, if_pos (by grind)]
  refine gs_iconst (pc := 0) (gd gk_55 0 rfl) (0) rfl ?_
  refine gs_istore_n (ls2 := fun v => [(0, .ref (a)), (1, .ref (b)), (2, .int (wd)), (3, .int (v))]) (pc := 1) (gd gk_55 1 rfl) (by rw [gL_55]; decide) (fun _ => rfl) (fun v3_1 hv3_1 => ?_)
  obtain rfl : v3_1 = Int32.ofNat 0 := hv3_1.trans (by first | rfl | (simp only [Int32.ofNat_add, Int32.ofNat_mul]; rfl) | (simp only [Int32.ofNat_add, Int32.ofNat_mul]))
  -- end 1: stop, pc 2, locals [(0, .ref (a)), (1, .ref (b)), (2, .int (wd)), (3, .int (Int32.ofNat 0))]
  exact key 10 0 rfl I (fun c hc => absurd hc (Nat.not_lt_zero _)) (fun _ _ => rfl)
