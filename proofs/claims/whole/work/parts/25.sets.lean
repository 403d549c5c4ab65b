/-! ===== sets of hours; what a walk tells ===== -/
/-- the hours of a number: the last hour goes in and out fastest -/
def gz_sn (num h0 L : Nat) : Nat → Nat
  | 0 => 0
  | b + 1 => gz_sn num h0 L b + (if num.testBit b then 2 ^ (h0 + L - 1 - b) else 0)
def gz_se (num h0 L : Nat) : Nat → Int32
  | 0 => 0
  | b + 1 => if gz_in (Int32.ofNat num) (Int32.ofNat b) then gz_se num h0 L b ||| (1 <<< (((Int32.ofNat h0 + Int32.ofNat L - 1) - Int32.ofNat b) &&& 31)) else gz_se num h0 L b
theorem gz_se_sn : ∀ h0, h0 < 9 → ∀ L, L < 9 → h0 + L < 9 → ∀ num, num < 2 ^ L → gz_se num h0 L L = Int32.ofNat (gz_sn num h0 L L) ∧ gz_sn num h0 L L < 256 := by decide +kernel
theorem gz_shl : ∀ L, L < 31 → (1 : Int32) <<< (Int32.ofNat L &&& 31) = Int32.ofNat (2 ^ L) := by decide +kernel
section
variable {V : gw_V} {n W N h0 L bc : Nat} {I : Nat → Nat → Int32} {J : Nat → Nat → Int64}
theorem c_sets (hL : I 57 12 = Int32.ofNat L) (h8 : L ≤ 8) : gw_E V 51 (0, [(0, .ref 57)], [], gS n I J, 0, 0) (fun v w' => v = some (.int (Int32.ofNat (2 ^ L))) ∧ w' = gS n I J) := by
  refine gs_iconst (pc := 0) (gd gk_51 0 rfl) (1) rfl ?_
  refine gs_aload_n (pc := 1) (gd gk_51 1 rfl) rfl ?_
  refine gs_getI (pc := 2) (gd gk_51 2 rfl) rfl rfl ?_
  refine gs_as (Int32.ofNat L) (hL) ?_
  refine gs_ishl (pc := 5) (gd gk_51 3 rfl) ?_
  -- end 1: ireturn (1 <<< (Int32.ofNat L &&& 31)), pc 6, locals [(0, .ref (57))]
  exact gs_iret (pc := 6) (gd gk_51 4 rfl) rfl (rfl) (Nat.zero_le _) (Nat.zero_le _) (⟨by rw [gz_shl L (by omega)], rfl⟩)
theorem c_set (num : Nat) (hn : num < 2 ^ L) (hh : I 57 11 = Int32.ofNat h0) (hL : I 57 12 = Int32.ofNat L) (h8 : h0 + L ≤ 8) : gw_E V 52 (0, [(0, .ref 57), (1, .int (Int32.ofNat num))], [], gS n I J, 0, 0) (fun v w' => v = some (.int (Int32.ofNat (gz_sn num h0 L L))) ∧ w' = gS n I J) := by
  have hfin : gz_se num h0 L L = Int32.ofNat (gz_sn num h0 L L) := (gz_se_sn h0 (by omega) L (by omega) (by omega) num hn).1
  have key : ∀ (m k : Nat), m + k = L → ∀ x, x = gz_se num h0 L k → gw_E V 52 (4, [(0, .ref 57), (1, .int (Int32.ofNat num)), (2, .int x), (3, .int (Int32.ofNat k))], [], gS n I J, 0, 0) (fun v w' => v = some (.int (Int32.ofNat (gz_sn num h0 L L))) ∧ w' = gS n I J) := by
    intro m
    induction m with
    | zero =>
      intro k hk x hx
      obtain rfl : k = L := by omega
      refine gs_iload_n (pc := 4) (gd gk_52 4 rfl) rfl ?_
      refine gs_aload_n (pc := 5) (gd gk_52 5 rfl) rfl ?_
      refine gs_getI (pc := 6) (gd gk_52 6 rfl) rfl rfl ?_
      refine gs_as (Int32.ofNat k) (hL) ?_
      refine gs_icmp_ge (pc := 9) (gd gk_52 7 rfl) (fun c9 => ?_) (fun c9 => ?_)
      · replace c9 : k ≤ k := (zle (k := k) (m := k) (by omega) (by omega)).mp c9
        refine gs_iload_n (pc := 44) (gd gk_52 28 rfl) rfl ?_
        -- end 1: ireturn x, pc 45, locals [(0, .ref (57)), (1, .int (Int32.ofNat num)), (2, .int (x)), (3, .int (Int32.ofNat k))]
        exact gs_iret (pc := 45) (gd gk_52 29 rfl) rfl (rfl) (Nat.zero_le _) (Nat.zero_le _) (⟨by rw [hx, hfin], rfl⟩)
      · replace c9 : ¬ (k ≤ k) := fun q9 => c9 ((zle (k := k) (m := k) (by omega) (by omega)).mpr q9)
        -- end 2: stop, pc 12, locals [(0, .ref (57)), (1, .int (Int32.ofNat num)), (2, .int (x)), (3, .int (Int32.ofNat k))]
        exact absurd (Nat.le_refl k) c9
    | succ m ih =>
      intro k hk x hx
      refine gs_iload_n (pc := 4) (gd gk_52 4 rfl) rfl ?_
      refine gs_aload_n (pc := 5) (gd gk_52 5 rfl) rfl ?_
      refine gs_getI (pc := 6) (gd gk_52 6 rfl) rfl rfl ?_
      refine gs_as (Int32.ofNat L) (hL) ?_
      refine gs_icmp_ge (pc := 9) (gd gk_52 7 rfl) (fun c9 => ?_) (fun c9 => ?_)
      · replace c9 : L ≤ k := (zle (k := L) (m := k) (by omega) (by omega)).mp c9
        refine gs_iload_n (pc := 44) (gd gk_52 28 rfl) rfl ?_
        -- end 1: ireturn x, pc 45, locals [(0, .ref (57)), (1, .int (Int32.ofNat num)), (2, .int (x)), (3, .int (Int32.ofNat k))]
        exact absurd c9 (by omega)
      · replace c9 : ¬ (L ≤ k) := fun q9 => c9 ((zle (k := L) (m := k) (by omega) (by omega)).mpr q9)
        refine gs_iload_n (pc := 12) (gd gk_52 8 rfl) rfl ?_
        refine gs_iload_n (pc := 13) (gd gk_52 9 rfl) rfl ?_
        refine gs_callS (as := [.int (Int32.ofNat num), .int (Int32.ofNat k)]) (pc := 14) (gd gk_52 10 rfl) (by decide) rfl rfl (Nat.le_of_ble_eq_true rfl) gq_52_96 (Nat.le_of_ble_eq_true rfl) (c_in (Int32.ofNat num) (Int32.ofNat k)) (fun r_14 w_14 q_14 => ?_)
        obtain ⟨rfl, rfl⟩ := q_14
        refine gs_if_eq (pc := 17) (gd gk_52 11 rfl) (fun c17 => ?_) (fun c17 => ?_)
        · refine gs_iinc (ls2 := fun v => [(0, .ref (57)), (1, .int (Int32.ofNat num)), (2, .int (x)), (3, .int (v))]) (pc := 38) (gd gk_52 26 rfl) rfl (by rw [gL_52]; decide) (fun _ => rfl) (1) rfl (fun v3_1 hv3_1 => ?_)
          obtain rfl : v3_1 = Int32.ofNat (k + 1) := hv3_1.trans (by first | rfl | (simp only [Int32.ofNat_add, Int32.ofNat_mul]; rfl) | (simp only [Int32.ofNat_add, Int32.ofNat_mul]))
          refine gs_goto (pc := 41) (gd gk_52 27 rfl) ?_
          -- end 2: stop, pc 4, locals [(0, .ref (57)), (1, .int (Int32.ofNat num)), (2, .int (x)), (3, .int (Int32.ofNat (k + 1)))]
          exact ih (k + 1) (by omega) _ (by rw [hx]; simp only [gz_se, gz_b_eq.mp c17]; rfl)
        · refine gs_iload_n (pc := 20) (gd gk_52 12 rfl) rfl ?_
          refine gs_iconst (pc := 21) (gd gk_52 13 rfl) (1) rfl ?_
          refine gs_aload_n (pc := 22) (gd gk_52 14 rfl) rfl ?_
          refine gs_getI (pc := 23) (gd gk_52 15 rfl) rfl rfl ?_
          refine gs_as (Int32.ofNat h0) (hh) ?_
          refine gs_aload_n (pc := 26) (gd gk_52 16 rfl) rfl ?_
          refine gs_getI (pc := 27) (gd gk_52 17 rfl) rfl rfl ?_
          refine gs_as (Int32.ofNat L) (hL) ?_
          refine gs_iadd (pc := 30) (gd gk_52 18 rfl) ?_
          refine gs_iconst (pc := 31) (gd gk_52 19 rfl) (1) rfl ?_
          refine gs_isub (pc := 32) (gd gk_52 20 rfl) ?_
          refine gs_iload_n (pc := 33) (gd gk_52 21 rfl) rfl ?_
          refine gs_isub (pc := 34) (gd gk_52 22 rfl) ?_
          refine gs_ishl (pc := 35) (gd gk_52 23 rfl) ?_
          refine gs_ior (pc := 36) (gd gk_52 24 rfl) ?_
          refine gs_istore_n (ls2 := fun v => [(0, .ref (57)), (1, .int (Int32.ofNat num)), (2, .int (v)), (3, .int (Int32.ofNat k))]) (pc := 37) (gd gk_52 25 rfl) (by rw [gL_52]; decide) (fun _ => rfl) (fun v2_1 hv2_1 => ?_)
          refine gs_iinc (ls2 := fun v => [(0, .ref (57)), (1, .int (Int32.ofNat num)), (2, .int (v2_1)), (3, .int (v))]) (pc := 38) (gd gk_52 26 rfl) rfl (by rw [gL_52]; decide) (fun _ => rfl) (1) rfl (fun v3_2 hv3_2 => ?_)
          obtain rfl : v3_2 = Int32.ofNat (k + 1) := hv3_2.trans (by first | rfl | (simp only [Int32.ofNat_add, Int32.ofNat_mul]; rfl) | (simp only [Int32.ofNat_add, Int32.ofNat_mul]))
          refine gs_goto (pc := 41) (gd gk_52 27 rfl) ?_
          -- end 3: stop, pc 4, locals [(0, .ref (57)), (1, .int (Int32.ofNat num)), (2, .int (v2_1)), (3, .int (Int32.ofNat (k + 1)))]
          exact ih (k + 1) (by omega) _ (by rw [hv2_1, hx]; simp only [gz_se, gz_b_ne.mp c17]; rfl)
  refine gs_iconst (pc := 0) (gd gk_52 0 rfl) (0) rfl ?_
  refine gs_istore_n (ls2 := fun v => [(0, .ref (57)), (1, .int (Int32.ofNat num)), (2, .int (v))]) (pc := 1) (gd gk_52 1 rfl) (by rw [gL_52]; decide) (fun _ => rfl) (fun v2_1 hv2_1 => ?_)
  obtain rfl : v2_1 = Int32.ofNat 0 := hv2_1.trans (by first | rfl | (simp only [Int32.ofNat_add, Int32.ofNat_mul]; rfl) | (simp only [Int32.ofNat_add, Int32.ofNat_mul]))
  refine gs_iconst (pc := 2) (gd gk_52 2 rfl) (0) rfl ?_
  refine gs_istore_n (ls2 := fun v => [(0, .ref (57)), (1, .int (Int32.ofNat num)), (2, .int (Int32.ofNat 0)), (3, .int (v))]) (pc := 3) (gd gk_52 3 rfl) (by rw [gL_52]; decide) (fun _ => rfl) (fun v3_1 hv3_1 => ?_)
  obtain rfl : v3_1 = Int32.ofNat 0 := hv3_1.trans (by first | rfl | (simp only [Int32.ofNat_add, Int32.ofNat_mul]; rfl) | (simp only [Int32.ofNat_add, Int32.ofNat_mul]))
  -- end 1: stop, pc 4, locals [(0, .ref (57)), (1, .int (Int32.ofNat num)), (2, .int (Int32.ofNat 0)), (3, .int (Int32.ofNat 0))]
  exact key L 0 (by omega) _ rfl
theorem c_comes (hL : I 57 12 = Int32.ofNat L) (h8 : L ≤ 8) : gw_E V 58 (0, [(0, .ref 57)], [], gS n I J, 0, 0) (fun v w' => v = some (.int (I 78 L)) ∧ w' = gS n I J) := by
  refine gs_aload_n (pc := 0) (gd gk_58 0 rfl) rfl ?_
  refine gs_getR (r := 78) (pc := 1) (gd gk_58 1 rfl) rfl rfl rfl (by decide) ?_
  refine gs_aload_n (pc := 4) (gd gk_58 2 rfl) rfl ?_
  refine gs_getI (pc := 5) (gd gk_58 3 rfl) rfl rfl ?_
  refine gs_as (Int32.ofNat L) (hL) ?_
  refine gs_ialoadK (L) (9) (pc := 8) (gd gk_58 4 rfl) (Or.inl rfl) rfl (by decide) (by first | rfl | (simp only [Int32.ofNat_add, Int32.ofNat_mul]; rfl) | (simp only [Int32.ofNat_add, Int32.ofNat_mul])) (by omega) ?_
  -- end 1: ireturn (I 78 L), pc 9, locals [(0, .ref (57))]
  exact gs_iret (pc := 9) (gd gk_58 5 rfl) rfl (rfl) (Nat.zero_le _) (Nat.zero_le _) (⟨rfl, rfl⟩)
theorem c_had (hL : I 57 12 = Int32.ofNat L) (h8 : L ≤ 8) : gw_E V 61 (0, [(0, .ref 57)], [], gS n I J, 0, 0) (fun v w' => v = some (.int (I 79 L)) ∧ w' = gS n I J) := by
  refine gs_aload_n (pc := 0) (gd gk_61 0 rfl) rfl ?_
  refine gs_getR (r := 79) (pc := 1) (gd gk_61 1 rfl) rfl rfl rfl (by decide) ?_
  refine gs_aload_n (pc := 4) (gd gk_61 2 rfl) rfl ?_
  refine gs_getI (pc := 5) (gd gk_61 3 rfl) rfl rfl ?_
  refine gs_as (Int32.ofNat L) (hL) ?_
  refine gs_ialoadK (L) (9) (pc := 8) (gd gk_61 4 rfl) (Or.inl rfl) rfl (by decide) (by first | rfl | (simp only [Int32.ofNat_add, Int32.ofNat_mul]; rfl) | (simp only [Int32.ofNat_add, Int32.ofNat_mul])) (by omega) ?_
  -- end 1: ireturn (I 79 L), pc 9, locals [(0, .ref (57))]
  exact gs_iret (pc := 9) (gd gk_61 5 rfl) rfl (rfl) (Nat.zero_le _) (Nat.zero_le _) (⟨rfl, rfl⟩)
theorem c_inhour (g : Nat) (hg : g < 8) : gw_E V 59 (0, [(0, .ref 57), (1, .int (Int32.ofNat g))], [], gS n I J, 0, 0) (fun v w' => v = some (.int (I 78 (g + 1) - I 78 g)) ∧ w' = gS n I J) := by
  refine gs_aload_n (pc := 0) (gd gk_59 0 rfl) rfl ?_
  refine gs_getR (r := 78) (pc := 1) (gd gk_59 1 rfl) rfl rfl rfl (by decide) ?_
  refine gs_iload_n (pc := 4) (gd gk_59 2 rfl) rfl ?_
  refine gs_iconst (pc := 5) (gd gk_59 3 rfl) (1) rfl ?_
  refine gs_iadd (pc := 6) (gd gk_59 4 rfl) ?_
  refine gs_ialoadK ((g + 1)) (9) (pc := 7) (gd gk_59 5 rfl) (Or.inl rfl) rfl (by decide) (by first | rfl | (simp only [Int32.ofNat_add, Int32.ofNat_mul]; rfl) | (simp only [Int32.ofNat_add, Int32.ofNat_mul])) (by omega) ?_
  refine gs_aload_n (pc := 8) (gd gk_59 6 rfl) rfl ?_
  refine gs_getR (r := 78) (pc := 9) (gd gk_59 7 rfl) rfl rfl rfl (by decide) ?_
  refine gs_iload_n (pc := 12) (gd gk_59 8 rfl) rfl ?_
  refine gs_ialoadK (g) (9) (pc := 13) (gd gk_59 9 rfl) (Or.inl rfl) rfl (by decide) (by first | rfl | (simp only [Int32.ofNat_add, Int32.ofNat_mul]; rfl) | (simp only [Int32.ofNat_add, Int32.ofNat_mul])) (by omega) ?_
  refine gs_isub (pc := 14) (gd gk_59 10 rfl) ?_
  -- end 1: ireturn ((I 78 (g + 1)) - (I 78 g)), pc 15, locals [(0, .ref (57)), (1, .int (Int32.ofNat g))]
  exact gs_iret (pc := 15) (gd gk_59 11 rfl) rfl (rfl) (Nat.zero_le _) (Nat.zero_le _) (⟨rfl, rfl⟩)
theorem c_paid (m : Nat) (hm : m < 6) (hL : I 57 12 = Int32.ofNat L) (h8 : L ≤ 8) : gw_E V 60 (0, [(0, .ref 57), (1, .int (Int32.ofNat m))], [], gS n I J, 0, 0) (fun v w' => v = some (.int (I (69 + L) m)) ∧ w' = gS n I J) := by
  refine gs_aload_n (pc := 0) (gd gk_60 0 rfl) rfl ?_
  refine gs_getR (r := 68) (pc := 1) (gd gk_60 1 rfl) rfl rfl rfl (by decide) ?_
  refine gs_aload_n (pc := 4) (gd gk_60 2 rfl) rfl ?_
  refine gs_getI (pc := 5) (gd gk_60 3 rfl) rfl rfl ?_
  refine gs_as (Int32.ofNat L) (hL) ?_
  refine gs_aaloadK (r := 69 + L) (L) (9) (pc := 8) (gd gk_60 4 rfl) (Or.inr rfl) rfl (by decide) (by first | rfl | (simp only [Int32.ofNat_add, Int32.ofNat_mul]; rfl) | (simp only [Int32.ofNat_add, Int32.ofNat_mul])) (by omega) rfl (by omega) ?_
  refine gs_iload_n (pc := 9) (gd gk_60 5 rfl) rfl ?_
  refine gs_ialoadK (m) (6) (pc := 10) (gd gk_60 6 rfl) (Or.inl (gt69 (by omega)).1) (gt69 (by omega)).2 (by decide) (by first | rfl | (simp only [Int32.ofNat_add, Int32.ofNat_mul]; rfl) | (simp only [Int32.ofNat_add, Int32.ofNat_mul])) (by omega) ?_
  -- end 1: ireturn (I (69 + L) m), pc 11, locals [(0, .ref (57)), (1, .int (Int32.ofNat m))]
  exact gs_iret (pc := 11) (gd gk_60 7 rfl) rfl (rfl) (Nat.zero_le _) (Nat.zero_le _) (⟨rfl, rfl⟩)
theorem c_left : gw_E V 97 (0, [(0, .ref 3)], [], gS n I J, 0, 0) (fun v w' => v = some (.int (I 6 3 - I 12 3)) ∧ w' = gS n I J) := by
  refine gs_aload_n (pc := 0) (gd gk_97 0 rfl) rfl ?_
  refine gs_getR (r := 6) (pc := 1) (gd gk_97 1 rfl) rfl rfl rfl (by decide) ?_
  refine gs_getI (pc := 4) (gd gk_97 2 rfl) rfl rfl ?_
  refine gs_aload_n (pc := 7) (gd gk_97 3 rfl) rfl ?_
  refine gs_getR (r := 12) (pc := 8) (gd gk_97 4 rfl) rfl rfl rfl (by decide) ?_
  refine gs_getI (pc := 11) (gd gk_97 5 rfl) rfl rfl ?_
  refine gs_isub (pc := 14) (gd gk_97 6 rfl) ?_
  -- end 1: ireturn ((I 6 3) - (I 12 3)), pc 15, locals [(0, .ref (3))]
  exact gs_iret (pc := 15) (gd gk_97 7 rfl) rfl (rfl) (Nat.zero_le _) (Nat.zero_le _) (⟨rfl, rfl⟩)
/-- the class's morning as it stands, in numbers -/
def gq_now (I : Nat → Nat → Int32) (W N h0 L bc : Nat) : Prop := gq_ok (gz_S I) W N ∧ I 12 3 = Int32.ofNat h0 ∧ h0 + L = W ∧ I 6 0 = Int32.ofNat bc ∧ bc < 10 ∧ I 78 0 = 0 ∧ I 79 0 = 0 ∧ ∀ m, m < N → I 69 m = 0
/-- what the class's asking may change: the walk but its first rows' beginnings -/
def gq_qf (I I2 : Nat → Nat → Int32) : Prop := (∀ p, ¬ (57 ≤ p ∧ p ≤ 125) → p ≠ 14 → p ≠ 15 → I2 p = I p) ∧ I2 78 0 = I 78 0 ∧ I2 79 0 = I 79 0 ∧ I2 69 = I 69
theorem gq_qf_tr {I I2 I3 : Nat → Nat → Int32} (h : gq_qf I I2) (h' : gq_qf I2 I3) : gq_qf I I3 := ⟨fun p a b c => (h'.1 p a b c).trans (h.1 p a b c), h'.2.1.trans h.2.1, h'.2.2.1.trans h.2.2.1, h'.2.2.2.trans h.2.2.2⟩
theorem gq_qf_w {I I2 : Nat → Nat → Int32} (h : gq_wf I I2) : gq_qf I I2 := ⟨fun p a _ _ => h.1 p (by omega) (by omega) (by omega), h.2.1 78 (Or.inl rfl), h.2.1 79 (Or.inr (Or.inl rfl)), h.1 69 (by omega) (by omega) (by omega)⟩
theorem gq_qf_s {I I2 : Nat → Nat → Int32} (h : gq_sf I I2) : gq_qf I I2 := ⟨fun p a _ _ => h p (by omega) (by omega), by rw [h 78 (by omega) (by omega)], by rw [h 79 (by omega) (by omega)], h 69 (by omega) (by omega)⟩
theorem gq_qf_S {I I2 : Nat → Nat → Int32} (h : gq_qf I I2) : gz_S I2 = gz_S I := gz_S_eq (fun p h1 h2 => h.1 p (by omega) (by omega) (by omega))
/-- the smells of the walk's first row may be read as the morning's -/
theorem gq_sq_c {s1 s2 : Nat → Int32} (h : ∀ c, c < 10 → s1 c = s2 c) {σ : Nat → Nat → Int32} {wd : Nat → Int32} {pl : Nat → Bool} {bc : Nat} {ch : Int32} : ∀ g c, c < 10 → gq_sq σ wd pl bc ch s1 g c = gq_sq σ wd pl bc ch s2 g c
  | 0, c, hc => h c hc
  | g + 1, c, _ => gq_st_c (gq_sq_c h g) σ _ _ _ _ c
theorem gq_cm_c {s1 s2 : Nat → Int32} (h : ∀ c, c < 10 → s1 c = s2 c) {σ : Nat → Nat → Int32} {wd : Nat → Int32} {pl : Nat → Bool} {bc : Nat} {ch : Int32} {so : Nat → Bool} {N : Nat} (hn : ∀ m, m < N → 0 ≤ σ 2 m ∧ σ 2 m ≤ 9) : ∀ g, gq_cm σ wd pl bc ch s1 so N g = gq_cm σ wd pl bc ch s2 so N g
  | 0 => rfl
  | g + 1 => by unfold gq_cm; rw [gq_cm_c h hn g, gq_hc_c (gq_sq_c h (g + 1)) hn]
theorem gq_hd_c {s1 s2 : Nat → Int32} (h : ∀ c, c < 10 → s1 c = s2 c) {σ : Nat → Nat → Int32} {wd : Nat → Int32} {pl : Nat → Bool} {bc : Nat} {ch : Int32} {N : Nat} (hn : ∀ m, m < N → 0 ≤ σ 2 m ∧ σ 2 m ≤ 9) : ∀ g, gq_hd σ wd pl bc ch s1 N g = gq_hd σ wd pl bc ch s2 N g
  | 0 => rfl
  | g + 1 => by unfold gq_hd; rw [gq_hd_c h hn g, gq_who_c (gq_sq_c h (g + 1)) hn]
theorem gq_pd_c {s1 s2 : Nat → Int32} (h : ∀ c, c < 10 → s1 c = s2 c) {σ : Nat → Nat → Int32} {wd : Nat → Int32} {pl : Nat → Bool} {bc : Nat} {ch : Int32} {m : Nat} (hn : 0 ≤ σ 2 m ∧ σ 2 m ≤ 9) : ∀ g, gq_pd σ wd pl bc ch s1 m g = gq_pd σ wd pl bc ch s2 m g
  | 0 => rfl
  | g + 1 => by unfold gq_pd; rw [gq_pd_c h hn g, gq_has_c (gq_sq_c h (g + 1)) hn]
end
