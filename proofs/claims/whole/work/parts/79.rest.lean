/-! ===== two bakers: pairs at rest; the class ===== -/
def gq_hr (h0 L a : Nat) : Nat := if a < L then h0 + a else 9
def gq_ix (h0 L h : Nat) : Nat := if h = 9 then L else min L (h - h0)
theorem gq_hr_9 {h0 L a : Nat} (h : h0 + L ≤ 8) : gq_hr h0 L a ≤ 9 := by unfold gq_hr; split <;> omega
theorem gq_ix_hr {h0 L a : Nat} (h : h0 + L ≤ 8) (ha : a ≤ L) : gq_ix h0 L (gq_hr h0 L a) = a := by
  unfold gq_ix gq_hr
  by_cases e : a < L
  · rw [if_pos e, if_neg (by omega)]; omega
  · rw [if_neg e, if_pos rfl]; omega
theorem gq_ix_le (h0 L h : Nat) : gq_ix h0 L h ≤ L := by unfold gq_ix; split <;> omega
def gq_rt (F G : Nat → Nat → Int32) (a b : Nat) : Nat → Bool
  | 0 => true
  | c + 1 => gq_rt F G a b c && (decide (F c b ≤ F a b) && decide (G a c ≤ G a b))
theorem gq_rt_f {F G : Nat → Nat → Int32} {a b k : Nat} (h : gq_rt F G a b k = false) : ∀ j, gq_rt F G a b (k + j) = false
  | 0 => h
  | j + 1 => by show (gq_rt F G a b (k + j) && _) = false; rw [gq_rt_f h j]; rfl
theorem gq_rt_c {F G F2 G2 : Nat → Nat → Int32} {a b L : Nat} (ha : a ≤ L) (hb : b ≤ L) (hF : ∀ c, c ≤ L → ∀ d, d ≤ L → F c d = F2 c d) (hG : ∀ c, c ≤ L → ∀ d, d ≤ L → G c d = G2 c d) : ∀ k, k ≤ L + 1 → gq_rt F G a b k = gq_rt F2 G2 a b k
  | 0, _ => rfl
  | k + 1, hk => by
    unfold gq_rt
    rw [gq_rt_c ha hb hF hG k (by omega), hF k (by omega) b hb, hF a ha b hb, hG a ha k (by omega), hG a ha b hb]
/-- which pair is at rest: ten times the first one's hour and the second one's -/
def gq_R (F G : Nat → Nat → Int32) (h0 L k : Nat) : Bool := gq_rt F G (gq_ix h0 L (k / 10)) (gq_ix h0 L (k % 10)) (L + 1)
theorem gq_R_c {F G F2 G2 : Nat → Nat → Int32} {h0 L : Nat} (hF : ∀ c, c ≤ L → ∀ d, d ≤ L → F c d = F2 c d) (hG : ∀ c, c ≤ L → ∀ d, d ≤ L → G c d = G2 c d) : gq_R F G h0 L = gq_R F2 G2 h0 L := by
  funext k
  exact gq_rt_c (gq_ix_le _ _ _) (gq_ix_le _ _ _) hF hG (L + 1) (Nat.le_refl _)
theorem gq_R_hr {F G : Nat → Nat → Int32} {h0 L a b : Nat} (h : h0 + L ≤ 8) (ha : a ≤ L) (hb : b ≤ L) : gq_R F G h0 L (10 * gq_hr h0 L a + gq_hr h0 L b) = gq_rt F G a b (L + 1) := by
  have h1 := gq_hr_9 (a := a) h
  have h2 := gq_hr_9 (a := b) h
  unfold gq_R
  rw [show (10 * gq_hr h0 L a + gq_hr h0 L b) / 10 = gq_hr h0 L a by omega, show (10 * gq_hr h0 L a + gq_hr h0 L b) % 10 = gq_hr h0 L b by omega, gq_ix_hr h ha, gq_ix_hr h hb]
def gq_s2 (R : Nat → Bool) (p : Nat × Int32) (k : Nat) : Nat × Int32 := if R k then (p.1 + 1, if p.1 = 0 then Int32.ofNat k else p.2) else p
def gq_ct (R : Nat → Bool) (l : List Nat) : Nat × Int32 := l.foldl (gq_s2 R) (0, -99)
theorem gq_ct_s (R : Nat → Bool) (l : List Nat) (k : Nat) : gq_ct R (l ++ [k]) = gq_s2 R (gq_ct R l) k := by unfold gq_ct; rw [List.foldl_append]; rfl
theorem gq_s2_t {R : Nat → Bool} {p : Nat × Int32} {k : Nat} (h : R k = true) : gq_s2 R p k = (p.1 + 1, if p.1 = 0 then Int32.ofNat k else p.2) := if_pos h
theorem gq_s2_f {R : Nat → Bool} {p : Nat × Int32} {k : Nat} (h : R k = false) : gq_s2 R p k = p := if_neg (by rw [h]; decide)
def gq_row (h0 L a b : Nat) : List Nat := (List.range b).map (fun d => 10 * gq_hr h0 L a + gq_hr h0 L d)
def gq_uto (h0 L a : Nat) : List Nat := (List.range a).flatMap (fun c => gq_row h0 L c (L + 1))
theorem gq_row_s (h0 L a b : Nat) : gq_row h0 L a (b + 1) = gq_row h0 L a b ++ [10 * gq_hr h0 L a + gq_hr h0 L b] := by
  unfold gq_row
  rw [List.range_succ, List.map_append]; rfl
theorem gq_uto_s (h0 L a : Nat) : gq_uto h0 L (a + 1) = gq_uto h0 L a ++ gq_row h0 L a (L + 1) := by
  unfold gq_uto
  rw [List.range_succ, List.flatMap_append]
  simp
section
variable {V : gw_V} {n W N h0 L bc : Nat} {I : Nat → Nat → Int32} {J : Nat → Nat → Int64}
abbrev gq_Fi (I : Nat → Nat → Int32) : Nat → Nat → Int32 := fun c d => I (107 + c) d
abbrev gq_Gi (I : Nat → Nat → Int32) : Nat → Nat → Int32 := fun c d => I (117 + c) d
theorem c_hourOf (a : Nat) (ha : a ≤ L) (h8 : h0 + L ≤ 8) (hh : I 57 11 = Int32.ofNat h0) (hL : I 57 12 = Int32.ofNat L) : gw_E V 22 (0, [(0, .ref 85), (1, .int (Int32.ofNat a))], [], gS n I J, 0, 0) (fun v w' => v = some (.int (Int32.ofNat (gq_hr h0 L a))) ∧ w' = gS n I J) := by
  refine gs_iload_n (pc := 0) (gd gk_22 0 rfl) rfl ?_
  refine gs_aload_n (pc := 1) (gd gk_22 1 rfl) rfl ?_
  refine gs_getR (r := 57) (pc := 2) (gd gk_22 2 rfl) rfl rfl rfl (by decide) ?_
  refine gs_getI (pc := 5) (gd gk_22 3 rfl) rfl rfl ?_
  refine gs_as (Int32.ofNat L) (hL) ?_
  refine gs_icmp_ge (pc := 8) (gd gk_22 4 rfl) (fun c8 => ?_) (fun c8 => ?_)
  · replace c8 : L ≤ a := (zle (k := L) (m := a) (by omega) (by omega)).mp c8
    refine gs_bipush (pc := 23) (gd gk_22 11 rfl) (9) rfl ?_
    -- end 1: ireturn 9, pc 25, locals [(0, .ref (85)), (1, .int (Int32.ofNat a))]
    exact gs_iret (pc := 25) (gd gk_22 12 rfl) rfl (rfl) (Nat.zero_le _) (Nat.zero_le _) (⟨by unfold gq_hr; rw [if_neg (by omega)]; rfl, rfl⟩)
  · replace c8 : ¬ (L ≤ a) := fun q9 => c8 ((zle (k := L) (m := a) (by omega) (by omega)).mpr q9)
    refine gs_aload_n (pc := 11) (gd gk_22 5 rfl) rfl ?_
    refine gs_getR (r := 57) (pc := 12) (gd gk_22 6 rfl) rfl rfl rfl (by decide) ?_
    refine gs_getI (pc := 15) (gd gk_22 7 rfl) rfl rfl ?_
    refine gs_as (Int32.ofNat h0) (hh) ?_
    refine gs_iload_n (pc := 18) (gd gk_22 8 rfl) rfl ?_
    refine gs_iadd (pc := 19) (gd gk_22 9 rfl) ?_
    refine gs_goto (pc := 20) (gd gk_22 10 rfl) ?_
    -- end 2: ireturn (Int32.ofNat h0 + Int32.ofNat a), pc 25, locals [(0, .ref (85)), (1, .int (Int32.ofNat a))]
    exact gs_iret (pc := 25) (gd gk_22 12 rfl) rfl (rfl) (Nat.zero_le _) (Nat.zero_le _) (⟨by unfold gq_hr; rw [if_pos (by omega), Int32.ofNat_add], rfl⟩)
theorem c_isAtRest (a b : Nat) (ha : a ≤ L) (hb : b ≤ L) (h8 : h0 + L ≤ 8) (hL : I 57 12 = Int32.ofNat L) : gw_E V 21 (0, [(0, .ref 85), (1, .int (Int32.ofNat a)), (2, .int (Int32.ofNat b))], [], gS n I J, 0, 0) (fun v w' => v = some (.int (gz_b (gq_rt (gq_Fi I) (gq_Gi I) a b (L + 1)))) ∧ w' = gS n I J) := by
  have lp : ∀ (r k : Nat), r + k = L + 1 → gq_rt (gq_Fi I) (gq_Gi I) a b k = true → gw_E V 21 (2, [(0, .ref 85), (1, .int (Int32.ofNat a)), (2, .int (Int32.ofNat b)), (3, .int (Int32.ofNat k))], [], gS n I J, 0, 0) (fun v w' => v = some (.int (gz_b (gq_rt (gq_Fi I) (gq_Gi I) a b (L + 1)))) ∧ w' = gS n I J) := by
    intro r
    induction r with
    | zero =>
      intro k hk h
      obtain rfl : k = L + 1 := by omega
      refine gs_iload_n (pc := 2) (gd gk_21 2 rfl) rfl ?_
      refine gs_aload_n (pc := 3) (gd gk_21 3 rfl) rfl ?_
      refine gs_getR (r := 57) (pc := 4) (gd gk_21 4 rfl) rfl rfl rfl (by decide) ?_
      refine gs_getI (pc := 7) (gd gk_21 5 rfl) rfl rfl ?_
      refine gs_as (Int32.ofNat L) (hL) ?_
      refine gs_icmp_gt (pc := 10) (gd gk_21 6 rfl) (fun c10 => ?_) (fun c10 => ?_)
      · replace c10 : L < (L + 1) := (zlt (k := L) (m := (L + 1)) (by omega) (by omega)).mp c10
        refine gs_iconst (pc := 59) (gd gk_21 37 rfl) (1) rfl ?_
        -- end 1: ireturn 1, pc 60, locals [(0, .ref (85)), (1, .int (Int32.ofNat a)), (2, .int (Int32.ofNat b)), (3, .int (Int32.ofNat (L + 1)))]
        exact gs_iret (pc := 60) (gd gk_21 38 rfl) rfl (rfl) (Nat.zero_le _) (Nat.zero_le _) (⟨by rw [h]; rfl, rfl⟩)
      · replace c10 : ¬ (L < (L + 1)) := fun q9 => c10 ((zlt (k := L) (m := (L + 1)) (by omega) (by omega)).mpr q9)
        -- end 2: stop, pc 13, locals [(0, .ref (85)), (1, .int (Int32.ofNat a)), (2, .int (Int32.ofNat b)), (3, .int (Int32.ofNat (L + 1)))]
        exact absurd (Nat.lt_succ_self L) c10
    | succ r ih =>
      intro k hk h
      have bad : (decide (I (107 + k) b ≤ I (107 + a) b) && decide (I (117 + a) k ≤ I (117 + a) b)) = false → gq_rt (gq_Fi I) (gq_Gi I) a b (L + 1) = false := fun hb9 => by
        rw [show L + 1 = (k + 1) + (L - k) by omega]
        exact gq_rt_f (by show (gq_rt _ _ a b k && (decide (I (107 + k) b ≤ I (107 + a) b) && decide (I (117 + a) k ≤ I (117 + a) b))) = false; rw [hb9, Bool.and_false]) _
      refine gs_iload_n (pc := 2) (gd gk_21 2 rfl) rfl ?_
      refine gs_aload_n (pc := 3) (gd gk_21 3 rfl) rfl ?_
      refine gs_getR (r := 57) (pc := 4) (gd gk_21 4 rfl) rfl rfl rfl (by decide) ?_
      refine gs_getI (pc := 7) (gd gk_21 5 rfl) rfl rfl ?_
      refine gs_as (Int32.ofNat L) (hL) ?_
      refine gs_icmp_gt (pc := 10) (gd gk_21 6 rfl) (fun c10 => ?_) (fun c10 => ?_)
      · replace c10 : L < k := (zlt (k := L) (m := k) (by omega) (by omega)).mp c10
        refine gs_iconst (pc := 59) (gd gk_21 37 rfl) (1) rfl ?_
        -- end 1: ireturn 1, pc 60, locals [(0, .ref (85)), (1, .int (Int32.ofNat a)), (2, .int (Int32.ofNat b)), (3, .int (Int32.ofNat k))]
        exact absurd c10 (by omega)
      · replace c10 : ¬ (L < k) := fun q9 => c10 ((zlt (k := L) (m := k) (by omega) (by omega)).mpr q9)
        refine gs_aload_n (pc := 13) (gd gk_21 7 rfl) rfl ?_
        refine gs_getR (r := 106) (pc := 14) (gd gk_21 8 rfl) rfl rfl rfl (by decide) ?_
        refine gs_iload_n (pc := 17) (gd gk_21 9 rfl) rfl ?_
        refine gs_aaloadK (r := 107 + k) (k) (9) (pc := 18) (gd gk_21 10 rfl) (Or.inr rfl) rfl (by decide) (by first | rfl | (simp only [Int32.ofNat_add, Int32.ofNat_mul]; rfl) | (simp only [Int32.ofNat_add, Int32.ofNat_mul])) (by omega) rfl (by omega) ?_
        refine gs_iload_n (pc := 19) (gd gk_21 11 rfl) rfl ?_
        refine gs_ialoadK (b) (9) (pc := 20) (gd gk_21 12 rfl) (Or.inl (gt107 (by omega)).1) (gt107 (by omega)).2 (by decide) (by first | rfl | (simp only [Int32.ofNat_add, Int32.ofNat_mul]; rfl) | (simp only [Int32.ofNat_add, Int32.ofNat_mul])) (by omega) ?_
        refine gs_aload_n (pc := 21) (gd gk_21 13 rfl) rfl ?_
        refine gs_getR (r := 106) (pc := 22) (gd gk_21 14 rfl) rfl rfl rfl (by decide) ?_
        refine gs_iload_n (pc := 25) (gd gk_21 15 rfl) rfl ?_
        refine gs_aaloadK (r := 107 + a) (a) (9) (pc := 26) (gd gk_21 16 rfl) (Or.inr rfl) rfl (by decide) (by first | rfl | (simp only [Int32.ofNat_add, Int32.ofNat_mul]; rfl) | (simp only [Int32.ofNat_add, Int32.ofNat_mul])) (by omega) rfl (by omega) ?_
        refine gs_iload_n (pc := 27) (gd gk_21 17 rfl) rfl ?_
        refine gs_ialoadK (b) (9) (pc := 28) (gd gk_21 18 rfl) (Or.inl (gt107 (by omega)).1) (gt107 (by omega)).2 (by decide) (by first | rfl | (simp only [Int32.ofNat_add, Int32.ofNat_mul]; rfl) | (simp only [Int32.ofNat_add, Int32.ofNat_mul])) (by omega) ?_
        refine gs_icmp_gt (pc := 29) (gd gk_21 19 rfl) (fun c29 => ?_) (fun c29 => ?_)
        · refine gs_iconst (pc := 51) (gd gk_21 33 rfl) (0) rfl ?_
          -- end 2: ireturn 0, pc 52, locals [(0, .ref (85)), (1, .int (Int32.ofNat a)), (2, .int (Int32.ofNat b)), (3, .int (Int32.ofNat k))]
          exact gs_iret (pc := 52) (gd gk_21 34 rfl) rfl (rfl) (Nat.zero_le _) (Nat.zero_le _) (⟨by rw [bad (by rw [decide_eq_false (Int32.not_le.mpr c29)]; rfl)]; rfl, rfl⟩)
        · refine gs_aload_n (pc := 32) (gd gk_21 20 rfl) rfl ?_
          refine gs_getR (r := 116) (pc := 33) (gd gk_21 21 rfl) rfl rfl rfl (by decide) ?_
          refine gs_iload_n (pc := 36) (gd gk_21 22 rfl) rfl ?_
          refine gs_aaloadK (r := 117 + a) (a) (9) (pc := 37) (gd gk_21 23 rfl) (Or.inr rfl) rfl (by decide) (by first | rfl | (simp only [Int32.ofNat_add, Int32.ofNat_mul]; rfl) | (simp only [Int32.ofNat_add, Int32.ofNat_mul])) (by omega) rfl (by omega) ?_
          refine gs_iload_n (pc := 38) (gd gk_21 24 rfl) rfl ?_
          refine gs_ialoadK (k) (9) (pc := 39) (gd gk_21 25 rfl) (Or.inl (gt117 (by omega)).1) (gt117 (by omega)).2 (by decide) (by first | rfl | (simp only [Int32.ofNat_add, Int32.ofNat_mul]; rfl) | (simp only [Int32.ofNat_add, Int32.ofNat_mul])) (by omega) ?_
          refine gs_aload_n (pc := 40) (gd gk_21 26 rfl) rfl ?_
          refine gs_getR (r := 116) (pc := 41) (gd gk_21 27 rfl) rfl rfl rfl (by decide) ?_
          refine gs_iload_n (pc := 44) (gd gk_21 28 rfl) rfl ?_
          refine gs_aaloadK (r := 117 + a) (a) (9) (pc := 45) (gd gk_21 29 rfl) (Or.inr rfl) rfl (by decide) (by first | rfl | (simp only [Int32.ofNat_add, Int32.ofNat_mul]; rfl) | (simp only [Int32.ofNat_add, Int32.ofNat_mul])) (by omega) rfl (by omega) ?_
          refine gs_iload_n (pc := 46) (gd gk_21 30 rfl) rfl ?_
          refine gs_ialoadK (b) (9) (pc := 47) (gd gk_21 31 rfl) (Or.inl (gt117 (by omega)).1) (gt117 (by omega)).2 (by decide) (by first | rfl | (simp only [Int32.ofNat_add, Int32.ofNat_mul]; rfl) | (simp only [Int32.ofNat_add, Int32.ofNat_mul])) (by omega) ?_
          refine gs_icmp_le (pc := 48) (gd gk_21 32 rfl) (fun c48 => ?_) (fun c48 => ?_)
          · refine gs_iinc (ls2 := fun v => [(0, .ref (85)), (1, .int (Int32.ofNat a)), (2, .int (Int32.ofNat b)), (3, .int (v))]) (pc := 53) (gd gk_21 35 rfl) rfl (by rw [gL_21]; decide) (fun _ => rfl) (1) rfl (fun v3_1 hv3_1 => ?_)
            obtain rfl : v3_1 = Int32.ofNat (k + 1) := hv3_1.trans (by first | rfl | (simp only [Int32.ofNat_add, Int32.ofNat_mul]; rfl) | (simp only [Int32.ofNat_add, Int32.ofNat_mul]))
            refine gs_goto (pc := 56) (gd gk_21 36 rfl) ?_
            -- end 3: stop, pc 2, locals [(0, .ref (85)), (1, .int (Int32.ofNat a)), (2, .int (Int32.ofNat b)), (3, .int (Int32.ofNat (k + 1)))]
            refine ih (k + 1) (by omega) ?_
            show (gq_rt _ _ a b k && (decide (I (107 + k) b ≤ I (107 + a) b) && decide (I (117 + a) k ≤ I (117 + a) b))) = true
            rw [h, decide_eq_true (Int32.not_lt.mp c29), decide_eq_true c48]; rfl
          · refine gs_iconst (pc := 51) (gd gk_21 33 rfl) (0) rfl ?_
            -- end 4: ireturn 0, pc 52, locals [(0, .ref (85)), (1, .int (Int32.ofNat a)), (2, .int (Int32.ofNat b)), (3, .int (Int32.ofNat k))]
            exact gs_iret (pc := 52) (gd gk_21 34 rfl) rfl (rfl) (Nat.zero_le _) (Nat.zero_le _) (⟨by rw [bad (by rw [decide_eq_false c48, Bool.and_false])]; rfl, rfl⟩)
  refine gs_iconst (pc := 0) (gd gk_21 0 rfl) (0) rfl ?_
  refine gs_istore_n (ls2 := fun v => [(0, .ref (85)), (1, .int (Int32.ofNat a)), (2, .int (Int32.ofNat b)), (3, .int (v))]) (pc := 1) (gd gk_21 1 rfl) (by rw [gL_21]; decide) (fun _ => rfl) (fun v3_1 hv3_1 => ?_)
  obtain rfl : v3_1 = Int32.ofNat 0 := hv3_1.trans (by first | rfl | (simp only [Int32.ofNat_add, Int32.ofNat_mul]; rfl) | (simp only [Int32.ofNat_add, Int32.ofNat_mul]))
  -- end 1: stop, pc 2, locals [(0, .ref (85)), (1, .int (Int32.ofNat a)), (2, .int (Int32.ofNat b)), (3, .int (Int32.ofNat 0))]
  exact lp (L + 1) 0 (by omega) rfl
abbrev cq_fr (n : Nat) (I : Nat → Nat → Int32) (J : Nat → Nat → Int64) (h0 L : Nat) : Option Value → gw_W → Prop := fun v w' => v = none ∧ ∃ I2, w' = gS n I2 J ∧ I2 85 6 = Int32.ofNat (gq_ct (gq_R (gq_Fi I) (gq_Gi I) h0 L) (gq_uto h0 L (L + 1))).1 ∧ I2 85 7 = (gq_ct (gq_R (gq_Fi I) (gq_Gi I) h0 L) (gq_uto h0 L (L + 1))).2 ∧ ∀ p, p ≠ 85 → I2 p = I p
theorem c_findRest (h8 : h0 + L ≤ 8) (hh : I 57 11 = Int32.ofNat h0) (hL : I 57 12 = Int32.ofNat L) : gw_E V 20 (0, [(0, .ref 85)], [], gS n I J, 0, 0) (cq_fr n I J h0 L) := by
  generalize hR : gq_R (gq_Fi I) (gq_Gi I) h0 L = R
  have hRR : ∀ a b, a ≤ L → b ≤ L → gq_rt (gq_Fi I) (gq_Gi I) a b (L + 1) = R (10 * gq_hr h0 L a + gq_hr h0 L b) := fun a b ha hb => by rw [← hR, gq_R_hr h8 ha hb]
  have lp : ∀ (r a : Nat), r + a = L + 1 → ∀ I1, (∀ p, p ≠ 85 → I1 p = I p) → I1 85 6 = Int32.ofNat (gq_ct R (gq_uto h0 L a)).1 → I1 85 7 = (gq_ct R (gq_uto h0 L a)).2 → (gq_ct R (gq_uto h0 L a)).1 ≤ 10 * a → gw_E V 20 (13, [(0, .ref 85), (1, .int (Int32.ofNat a))], [], gS n I1 J, 0, 0) (cq_fr n I J h0 L) := by
    intro r
    induction r with
    | zero =>
      intro a ha I1 g1 g2 g3 g4
      obtain rfl : a = L + 1 := by omega
      have hL1 : I1 57 12 = Int32.ofNat L := by rw [g1 57 (by omega)]; exact hL
      refine gs_iload_n (pc := 13) (gd gk_20 8 rfl) rfl ?_
      refine gs_aload_n (pc := 14) (gd gk_20 9 rfl) rfl ?_
      refine gs_getR (r := 57) (pc := 15) (gd gk_20 10 rfl) rfl rfl rfl (by decide) ?_
      refine gs_getI (pc := 18) (gd gk_20 11 rfl) rfl rfl ?_
      refine gs_as (Int32.ofNat L) (hL1) ?_
      refine gs_icmp_gt (pc := 21) (gd gk_20 12 rfl) (fun c21 => ?_) (fun c21 => ?_)
      · replace c21 : L < (L + 1) := (zlt (k := L) (m := (L + 1)) (by omega) (by omega)).mp c21
        -- end 1: return, pc 94, locals [(0, .ref (85)), (1, .int (Int32.ofNat (L + 1)))]
        exact gs_ret (pc := 94) (gd gk_20 50 rfl) rfl (Nat.zero_le _) (Nat.zero_le _) (⟨rfl, I1, rfl, by rw [hR]; exact g2, by rw [hR]; exact g3, g1⟩)
      · replace c21 : ¬ (L < (L + 1)) := fun q9 => c21 ((zlt (k := L) (m := (L + 1)) (by omega) (by omega)).mpr q9)
        -- end 2: stop, pc 24, locals [(0, .ref (85)), (1, .int (Int32.ofNat (L + 1)))]
        exact absurd (Nat.lt_succ_self L) c21
    | succ r ih =>
      intro a ha I1 g1 g2 g3 g4
      have inner : ∀ (r2 b : Nat), r2 + b = L + 1 → ∀ I2, (∀ p, p ≠ 85 → I2 p = I p) → I2 85 6 = Int32.ofNat (gq_ct R (gq_uto h0 L a ++ gq_row h0 L a b)).1 → I2 85 7 = (gq_ct R (gq_uto h0 L a ++ gq_row h0 L a b)).2 → (gq_ct R (gq_uto h0 L a ++ gq_row h0 L a b)).1 ≤ 10 * a + b → gw_E V 20 (26, [(0, .ref 85), (1, .int (Int32.ofNat a)), (2, .int (Int32.ofNat b))], [], gS n I2 J, 0, 0) (cq_fr n I J h0 L) := by
        intro r2
        induction r2 with
        | zero =>
          intro b hb I2 d1 d2 d3 d4
          obtain rfl : b = L + 1 := by omega
          have hL2 : I2 57 12 = Int32.ofNat L := by rw [d1 57 (by omega)]; exact hL
          rw [← gq_uto_s] at d2 d3 d4
          refine gs_iload_n (pc := 26) (gd gk_20 15 rfl) rfl ?_
          refine gs_aload_n (pc := 27) (gd gk_20 16 rfl) rfl ?_
          refine gs_getR (r := 57) (pc := 28) (gd gk_20 17 rfl) rfl rfl rfl (by decide) ?_
          refine gs_getI (pc := 31) (gd gk_20 18 rfl) rfl rfl ?_
          refine gs_as (Int32.ofNat L) (hL2) ?_
          refine gs_icmp_gt (pc := 34) (gd gk_20 19 rfl) (fun c34 => ?_) (fun c34 => ?_)
          · replace c34 : L < (L + 1) := (zlt (k := L) (m := (L + 1)) (by omega) (by omega)).mp c34
            refine gs_iinc (ls2 := fun v => [(0, .ref (85)), (1, .int (v)), (2, .int (Int32.ofNat (L + 1)))]) (pc := 88) (gd gk_20 48 rfl) rfl (by rw [gL_20]; decide) (fun _ => rfl) (1) rfl (fun v1_1 hv1_1 => ?_)
            obtain rfl : v1_1 = Int32.ofNat (a + 1) := hv1_1.trans (by first | rfl | (simp only [Int32.ofNat_add, Int32.ofNat_mul]; rfl) | (simp only [Int32.ofNat_add, Int32.ofNat_mul]))
            refine gs_goto (pc := 91) (gd gk_20 49 rfl) ?_
            -- end 1: stop, pc 13, locals [(0, .ref (85)), (1, .int (Int32.ofNat (a + 1))), (2, .int (Int32.ofNat (L + 1)))]
            exact gs_drop [0, 1] rfl (ih (a + 1) (by omega) I2 d1 d2 d3 (by omega))
          · replace c34 : ¬ (L < (L + 1)) := fun q9 => c34 ((zlt (k := L) (m := (L + 1)) (by omega) (by omega)).mpr q9)
            -- end 2: stop, pc 37, locals [(0, .ref (85)), (1, .int (Int32.ofNat a)), (2, .int (Int32.ofNat (L + 1)))]
            exact absurd (Nat.lt_succ_self L) c34
        | succ r2 ih2 =>
          intro b hb I2 d1 d2 d3 d4
          have hL2 : I2 57 12 = Int32.ofNat L := by rw [d1 57 (by omega)]; exact hL
          have hh2 : I2 57 11 = Int32.ofNat h0 := by rw [d1 57 (by omega)]; exact hh
          have hFG : gq_rt (gq_Fi I2) (gq_Gi I2) a b (L + 1) = R (10 * gq_hr h0 L a + gq_hr h0 L b) := by
            rw [← hRR a b (by omega) (by omega)]
            exact gq_rt_c (L := L) (by omega) (by omega) (fun c _ d _ => by show I2 _ _ = I _ _; rw [d1 _ (by omega)]) (fun c _ d _ => by show I2 _ _ = I _ _; rw [d1 _ (by omega)]) _ (Nat.le_refl _)
          generalize hp : gq_ct R (gq_uto h0 L a ++ gq_row h0 L a b) = p at d2 d3 d4
          have hnx : gq_ct R (gq_uto h0 L a ++ gq_row h0 L a (b + 1)) = gq_s2 R p (10 * gq_hr h0 L a + gq_hr h0 L b) := by rw [gq_row_s, ← List.append_assoc, gq_ct_s, hp]
          refine gs_iload_n (pc := 26) (gd gk_20 15 rfl) rfl ?_
          refine gs_aload_n (pc := 27) (gd gk_20 16 rfl) rfl ?_
          refine gs_getR (r := 57) (pc := 28) (gd gk_20 17 rfl) rfl rfl rfl (by decide) ?_
          refine gs_getI (pc := 31) (gd gk_20 18 rfl) rfl rfl ?_
          refine gs_as (Int32.ofNat L) (hL2) ?_
          refine gs_icmp_gt (pc := 34) (gd gk_20 19 rfl) (fun c34 => ?_) (fun c34 => ?_)
          · replace c34 : L < b := (zlt (k := L) (m := b) (by omega) (by omega)).mp c34
            -- end 1: stop, pc 88, locals [(0, .ref (85)), (1, .int (Int32.ofNat a)), (2, .int (Int32.ofNat b))]
            exact absurd c34 (by omega)
          · replace c34 : ¬ (L < b) := fun q9 => c34 ((zlt (k := L) (m := b) (by omega) (by omega)).mpr q9)
            refine gs_aload_n (pc := 37) (gd gk_20 20 rfl) rfl ?_
            refine gs_iload_n (pc := 38) (gd gk_20 21 rfl) rfl ?_
            refine gs_iload_n (pc := 39) (gd gk_20 22 rfl) rfl ?_
            refine gs_callV (as := [.int (Int32.ofNat a), .int (Int32.ofNat b)]) (pc := 40) (gd gk_20 23 rfl) (by decide) rfl (by decide) rfl rfl (Nat.le_of_ble_eq_true rfl) gq_20_21 (Nat.le_of_ble_eq_true rfl) (c_isAtRest (h0 := h0) a b (by omega) (by omega) h8 hL2) (fun r_40 w_40 q_40 => ?_)
            rw [hFG] at q_40
            obtain ⟨rfl, rfl⟩ := q_40
            refine gs_if_eq (pc := 43) (gd gk_20 24 rfl) (fun c43 => ?_) (fun c43 => ?_)
            · refine gs_iinc (ls2 := fun v => [(0, .ref (85)), (1, .int (Int32.ofNat a)), (2, .int (v))]) (pc := 82) (gd gk_20 46 rfl) rfl (by rw [gL_20]; decide) (fun _ => rfl) (1) rfl (fun v2_1 hv2_1 => ?_)
              obtain rfl : v2_1 = Int32.ofNat (b + 1) := hv2_1.trans (by first | rfl | (simp only [Int32.ofNat_add, Int32.ofNat_mul]; rfl) | (simp only [Int32.ofNat_add, Int32.ofNat_mul]))
              refine gs_goto (pc := 85) (gd gk_20 47 rfl) ?_
              -- end 2: stop, pc 26, locals [(0, .ref (85)), (1, .int (Int32.ofNat a)), (2, .int (Int32.ofNat (b + 1)))]
              have ht := gz_b_eq.mp c43
              rw [gq_s2_f ht] at hnx
              exact ih2 (b + 1) (by omega) I2 d1 (by rw [hnx]; exact d2) (by rw [hnx]; exact d3) (by rw [hnx]; omega)
            · refine gs_aload_n (pc := 46) (gd gk_20 25 rfl) rfl ?_
              refine gs_dup (pc := 47) (gd gk_20 26 rfl) rfl ?_
              refine gs_getI (pc := 48) (gd gk_20 27 rfl) rfl rfl ?_
              refine gs_as (Int32.ofNat p.1) (d2) ?_
              refine gs_iconst (pc := 51) (gd gk_20 28 rfl) (1) rfl ?_
              refine gs_iadd (pc := 52) (gd gk_20 29 rfl) ?_
              refine gs_putI (pc := 53) (gd gk_20 30 rfl) rfl rfl rfl rfl (fun I_1 hI_1 => ?_)
              refine gs_aload_n (pc := 56) (gd gk_20 31 rfl) rfl ?_
              refine gs_getI (pc := 57) (gd gk_20 32 rfl) rfl rfl ?_
              refine gs_as (Int32.ofNat (p.1 + 1)) (by rw [hI_1, gw_u_s]; unfold upd; rw [if_pos rfl, zsucc]) ?_
              refine gs_iconst (pc := 60) (gd gk_20 33 rfl) (1) rfl ?_
              refine gs_icmp_ne (pc := 61) (gd gk_20 34 rfl) (fun c61 => ?_) (fun c61 => ?_)
              · replace c61 : ¬ ((p.1 + 1) = 1) := fun q9 => c61 ((zeq (k := (p.1 + 1)) (m := 1) (by omega) (by omega)).mpr q9)
                refine gs_iinc (ls2 := fun v => [(0, .ref (85)), (1, .int (Int32.ofNat a)), (2, .int (v))]) (pc := 82) (gd gk_20 46 rfl) rfl (by rw [gL_20]; decide) (fun _ => rfl) (1) rfl (fun v2_2 hv2_2 => ?_)
                obtain rfl : v2_2 = Int32.ofNat (b + 1) := hv2_2.trans (by first | rfl | (simp only [Int32.ofNat_add, Int32.ofNat_mul]; rfl) | (simp only [Int32.ofNat_add, Int32.ofNat_mul]))
                refine gs_goto (pc := 85) (gd gk_20 47 rfl) ?_
                -- end 3: stop, pc 26, locals [(0, .ref (85)), (1, .int (Int32.ofNat a)), (2, .int (Int32.ofNat (b + 1)))]
                have ht := gz_b_ne.mp c43
                rw [gq_s2_t ht] at hnx
                refine ih2 (b + 1) (by omega) I_1 (fun p hp => by rw [hI_1, gw_u_o hp]; exact d1 p hp) (by rw [hnx, hI_1, gw_u_s]; unfold upd; rw [if_pos rfl, zsucc]) ?_ (by rw [hnx]; show p.1 + 1 ≤ _; omega)
                rw [hnx, hI_1, gw_u_s]
                unfold upd
                rw [if_neg (by omega), d3]
                show _ = if p.1 = 0 then _ else _
                rw [if_neg (by omega)]
              · replace c61 : (p.1 + 1) = 1 := (zeq (k := (p.1 + 1)) (m := 1) (by omega) (by omega)).mp c61
                refine gs_aload_n (pc := 64) (gd gk_20 35 rfl) rfl ?_
                refine gs_bipush (pc := 65) (gd gk_20 36 rfl) (10) rfl ?_
                refine gs_aload_n (pc := 67) (gd gk_20 37 rfl) rfl ?_
                refine gs_iload_n (pc := 68) (gd gk_20 38 rfl) rfl ?_
                refine gs_callV (as := [.int (Int32.ofNat a)]) (pc := 69) (gd gk_20 39 rfl) (by decide) rfl (by decide) rfl rfl (Nat.le_of_ble_eq_true rfl) gq_20_22 (Nat.le_of_ble_eq_true rfl) (c_hourOf (h0 := h0) (L := L) a (by omega) h8 (by rw [hI_1, gw_u_o (by omega)]; exact hh2) (by rw [hI_1, gw_u_o (by omega)]; exact hL2)) (fun r_69 w_69 q_69 => ?_)
                obtain ⟨rfl, rfl⟩ := q_69
                refine gs_imul (pc := 72) (gd gk_20 40 rfl) ?_
                refine gs_aload_n (pc := 73) (gd gk_20 41 rfl) rfl ?_
                refine gs_iload_n (pc := 74) (gd gk_20 42 rfl) rfl ?_
                refine gs_callV (as := [.int (Int32.ofNat b)]) (pc := 75) (gd gk_20 43 rfl) (by decide) rfl (by decide) rfl rfl (Nat.le_of_ble_eq_true rfl) gq_20_22 (Nat.le_of_ble_eq_true rfl) (c_hourOf (h0 := h0) (L := L) b (by omega) h8 (by rw [hI_1, gw_u_o (by omega)]; exact hh2) (by rw [hI_1, gw_u_o (by omega)]; exact hL2)) (fun r_75 w_75 q_75 => ?_)
                obtain ⟨rfl, rfl⟩ := q_75
                refine gs_iadd (pc := 78) (gd gk_20 44 rfl) ?_
                refine gs_putI (pc := 79) (gd gk_20 45 rfl) rfl rfl rfl rfl (fun I_2 hI_2 => ?_)
                refine gs_iinc (ls2 := fun v => [(0, .ref (85)), (1, .int (Int32.ofNat a)), (2, .int (v))]) (pc := 82) (gd gk_20 46 rfl) rfl (by rw [gL_20]; decide) (fun _ => rfl) (1) rfl (fun v2_3 hv2_3 => ?_)
                obtain rfl : v2_3 = Int32.ofNat (b + 1) := hv2_3.trans (by first | rfl | (simp only [Int32.ofNat_add, Int32.ofNat_mul]; rfl) | (simp only [Int32.ofNat_add, Int32.ofNat_mul]))
                refine gs_goto (pc := 85) (gd gk_20 47 rfl) ?_
                -- end 4: stop, pc 26, locals [(0, .ref (85)), (1, .int (Int32.ofNat a)), (2, .int (Int32.ofNat (b + 1)))]
                have ht := gz_b_ne.mp c43
                rw [gq_s2_t ht] at hnx
                refine ih2 (b + 1) (by omega) I_2 (fun p hp => by rw [hI_2, gw_u_o hp, hI_1, gw_u_o hp]; exact d1 p hp) ?_ ?_ (by rw [hnx]; show p.1 + 1 ≤ _; omega)
                · rw [hnx, hI_2, gw_u_s, hI_1, gw_u_s]; unfold upd; rw [if_neg (by omega), if_pos rfl, zsucc]
                · rw [hnx, hI_2, gw_u_s]; unfold upd; rw [if_pos rfl]
                  show _ = if p.1 = 0 then _ else _
                  rw [if_pos (by omega), Int32.ofNat_add, Int32.ofNat_mul]; rfl
      have hL1 : I1 57 12 = Int32.ofNat L := by rw [g1 57 (by omega)]; exact hL
      refine gs_iload_n (pc := 13) (gd gk_20 8 rfl) rfl ?_
      refine gs_aload_n (pc := 14) (gd gk_20 9 rfl) rfl ?_
      refine gs_getR (r := 57) (pc := 15) (gd gk_20 10 rfl) rfl rfl rfl (by decide) ?_
      refine gs_getI (pc := 18) (gd gk_20 11 rfl) rfl rfl ?_
      refine gs_as (Int32.ofNat L) (hL1) ?_
      refine gs_icmp_gt (pc := 21) (gd gk_20 12 rfl) (fun c21 => ?_) (fun c21 => ?_)
      · replace c21 : L < a := (zlt (k := L) (m := a) (by omega) (by omega)).mp c21
        -- end 1: stop, pc 94, locals [(0, .ref (85)), (1, .int (Int32.ofNat a))]
        exact absurd c21 (by omega)
      · replace c21 : ¬ (L < a) := fun q9 => c21 ((zlt (k := L) (m := a) (by omega) (by omega)).mpr q9)
        refine gs_iconst (pc := 24) (gd gk_20 13 rfl) (0) rfl ?_
        refine gs_istore_n (ls2 := fun v => [(0, .ref (85)), (1, .int (Int32.ofNat a)), (2, .int (v))]) (pc := 25) (gd gk_20 14 rfl) (by rw [gL_20]; decide) (fun _ => rfl) (fun v2_1 hv2_1 => ?_)
        obtain rfl : v2_1 = Int32.ofNat 0 := hv2_1.trans (by first | rfl | (simp only [Int32.ofNat_add, Int32.ofNat_mul]; rfl) | (simp only [Int32.ofNat_add, Int32.ofNat_mul]))
        -- end 2: stop, pc 26, locals [(0, .ref (85)), (1, .int (Int32.ofNat a)), (2, .int (Int32.ofNat 0))]
        have e : gq_uto h0 L a ++ gq_row h0 L a 0 = gq_uto h0 L a := List.append_nil _
        exact inner (L + 1) 0 (by omega) I1 g1 (by rw [e]; exact g2) (by rw [e]; exact g3) (by rw [e]; exact g4)
  refine gs_aload_n (pc := 0) (gd gk_20 0 rfl) rfl ?_
  refine gs_iconst (pc := 1) (gd gk_20 1 rfl) (0) rfl ?_
  refine gs_putI (pc := 2) (gd gk_20 2 rfl) rfl rfl rfl rfl (fun I_1 hI_1 => ?_)
  refine gs_aload_n (pc := 5) (gd gk_20 3 rfl) rfl ?_
  refine gs_bipush (pc := 6) (gd gk_20 4 rfl) (-99) rfl ?_
  refine gs_putI (pc := 8) (gd gk_20 5 rfl) rfl rfl rfl rfl (fun I_2 hI_2 => ?_)
  refine gs_iconst (pc := 11) (gd gk_20 6 rfl) (0) rfl ?_
  refine gs_istore_n (ls2 := fun v => [(0, .ref (85)), (1, .int (v))]) (pc := 12) (gd gk_20 7 rfl) (by rw [gL_20]; decide) (fun _ => rfl) (fun v1_1 hv1_1 => ?_)
  obtain rfl : v1_1 = Int32.ofNat 0 := hv1_1.trans (by first | rfl | (simp only [Int32.ofNat_add, Int32.ofNat_mul]; rfl) | (simp only [Int32.ofNat_add, Int32.ofNat_mul]))
  -- end 1: stop, pc 13, locals [(0, .ref (85)), (1, .int (Int32.ofNat 0))]
  exact lp (L + 1) 0 (by omega) I_2 (fun p hp => by rw [hI_2, gw_u_o hp, hI_1, gw_u_o hp]) (by rw [hI_2, gw_u_s, hI_1, gw_u_s]; rfl) (by rw [hI_2, gw_u_s]; rfl) (Nat.zero_le _)
end
