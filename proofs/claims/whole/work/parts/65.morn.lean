/-! ===== mornings: the class ===== -/
theorem zcmp_eq (x y : Int64) : (lg_cmp x y = 0) ↔ x = y := by
  unfold lg_cmp
  simp only [gt_iff_lt]
  repeat' split
  · rename_i h; constructor
    · intro q; exact absurd q (by decide)
    · intro q; rw [q] at h; exact absurd h Int64.lt_irrefl
  · rename_i h1 h2; exact ⟨fun _ => h2, fun _ => rfl⟩
  · rename_i h1 h2; constructor
    · intro q; exact absurd q (by decide)
    · intro q; exact absurd q h2
theorem zsm {x : Int32} {b : Nat} (hb : b < 2 ^ 31) (h : 1 ≤ x ∧ x ≤ Int32.ofNat b) : ∃ e, x = Int32.ofNat e ∧ 1 ≤ e ∧ e ≤ b := by
  have h0 : 0 ≤ x := by grind
  have h1 := znat h0
  have h2 := (zle_l h0 hb).mp h.2
  refine ⟨x.toNatClampNeg, h1.1.symm, ?_, h2⟩
  have h3 := h.1
  rw [← h1.1] at h3
  exact (zle (k := 1) (by decide) (by omega)).mp h3
/-- the seed, k steps on -/
def gz_sd (x : Int64) : Nat → Int64
  | 0 => x
  | k + 1 => gz_sd x k * 6364136223846793005 + 1442695040888963407
theorem gz_sd_add (x : Int64) (a : Nat) : ∀ b, gz_sd x (a + b) = gz_sd (gz_sd x a) b
  | 0 => rfl
  | b + 1 => by show gz_sd x (a + b) * _ + _ = gz_sd (gz_sd x a) b * _ + _; rw [gz_sd_add x a b]
def gz_up (x : Int64) : Int64 := (x.toUInt64 >>> ((33 : Int32).toInt64.toUInt64 &&& Int64.toUInt64 63)).toInt64
def gz_bk (x : Int64) : Bool := decide (gz_up x - gz_up x / 2 * 2 = 1)
/-- the plan of a seed: the first k hours -/
def gz_ps (x : Int64) (h0 : Nat) : Nat → Int32
  | 0 => 0
  | k + 1 => if gz_bk (gz_sd x (k + 1)) then gz_ps x h0 k ||| (1 <<< (Int32.ofNat (h0 + k) &&& 31)) else gz_ps x h0 k
theorem gz_ps_bit (x : Int64) (h0 : Nat) {q : Nat} (hq : h0 + q < 32) : ∀ k, h0 + k ≤ 32 → gz_in (gz_ps x h0 k) (Int32.ofNat (h0 + q)) = (decide (q < k) && gz_bk (gz_sd x (q + 1)))
  | 0, _ => by rw [show gz_ps x h0 0 = 0 from rfl, gz_zero hq]; simp
  | k + 1, hk => by
    have ih := gz_ps_bit x h0 hq k (by omega)
    by_cases h : gz_bk (gz_sd x (k + 1)) = true
    · rw [show gz_ps x h0 (k + 1) = gz_ps x h0 k ||| (1 <<< (Int32.ofNat (h0 + k) &&& 31)) from if_pos h, gz_or _ _ hq, ih, gz_one (h0 + k) (by omega) (h0 + q) hq]
      by_cases e9 : k = q
      · subst e9; simp [h]
      · have : decide (q < k + 1) = decide (q < k) := by rw [decide_eq_decide]; omega
        have e8 : decide (h0 + k = h0 + q) = false := decide_eq_false (by omega)
        rw [this, e8, Bool.or_false]
    · rw [show gz_ps x h0 (k + 1) = gz_ps x h0 k from if_neg h, ih]
      by_cases e9 : k = q
      · subst e9; simp [h]
      · have : decide (q < k + 1) = decide (q < k) := by rw [decide_eq_decide]; omega
        rw [this]
/-- what comes by t mornings of a seed -/
def gz_ms (σ : Nat → Nat → Int32) (N h0 L bc : Nat) (ch : Int32) (s0 : Nat → Int32) (x : Int64) : Nat → Int32
  | 0 => 0
  | t + 1 => gz_ms σ N h0 L bc ch s0 x t + gq_cm σ (gq_w0 σ h0) (fun q => gz_bk (gz_sd x (t * L + (q + 1)))) bc ch s0 (fun _ => true) N L
section
variable {V : gw_V} {n W N h0 L bc : Nat} {I : Nat → Nat → Int32} {J : Nat → Nat → Int64}
theorem c_planOfSeed (x : Int64) (hx : J 3 11 = x) (hn : gq_now I W N h0 L bc) : gw_E V 101 (0, [(0, .ref 3)], [], gS n I J, 0, 0) (fun v w' => v = some (.int (gz_ps x h0 L)) ∧ ∃ J2, w' = gS n I J2 ∧ J2 3 11 = gz_sd x L ∧ ∀ p q, ¬ (p = 3 ∧ q = 11) → J2 p q = J p q) := by
  obtain ⟨hok, hh, hW, hbc, hb9, h78, h79, h69⟩ := id hn
  have hW8 : W ≤ 8 := hok.2.1
  have hW3 : I 6 3 = Int32.ofNat W := hok.1
  have lp : ∀ (m k : Nat), m + k = L → ∀ J1 y, y = gz_ps x h0 k → J1 3 11 = gz_sd x k → (∀ p q, ¬ (p = 3 ∧ q = 11) → J1 p q = J p q) → gw_E V 101 (10, [(0, .ref 3), (1, .int y), (2, .int (Int32.ofNat (h0 + k)))], [], gS n I J1, 0, 0) (fun v w' => v = some (.int (gz_ps x h0 L)) ∧ ∃ J2, w' = gS n I J2 ∧ J2 3 11 = gz_sd x L ∧ ∀ p q, ¬ (p = 3 ∧ q = 11) → J2 p q = J p q) := by
    intro m
    induction m with
    | zero =>
      intro k hk J1 y hy g1 g2
      obtain rfl : k = L := by omega
      refine gs_iload_n (pc := 10) (gd gk_101 6 rfl) rfl ?_
      refine gs_aload_n (pc := 11) (gd gk_101 7 rfl) rfl ?_
      refine gs_getR (r := 6) (pc := 12) (gd gk_101 8 rfl) rfl rfl rfl (by decide) ?_
      refine gs_getI (pc := 15) (gd gk_101 9 rfl) rfl rfl ?_
      refine gs_as (Int32.ofNat W) (hW3) ?_
      refine gs_icmp_ge (pc := 18) (gd gk_101 10 rfl) (fun c18 => ?_) (fun c18 => ?_)
      · replace c18 : W ≤ (h0 + k) := (zle (k := W) (m := (h0 + k)) (by omega) (by omega)).mp c18
        refine gs_iload_n (pc := 65) (gd gk_101 36 rfl) rfl ?_
        -- end 1: ireturn y, pc 66, locals [(0, .ref (3)), (1, .int (y)), (2, .int (Int32.ofNat (h0 + k)))]
        exact gs_iret (pc := 66) (gd gk_101 37 rfl) rfl (rfl) (Nat.zero_le _) (Nat.zero_le _) (⟨by rw [hy], J1, rfl, g1, g2⟩)
      · replace c18 : ¬ (W ≤ (h0 + k)) := fun q9 => c18 ((zle (k := W) (m := (h0 + k)) (by omega) (by omega)).mpr q9)
        -- end 2: stop, pc 21, locals [(0, .ref (3)), (1, .int (y)), (2, .int (Int32.ofNat (h0 + k)))]
        exact absurd c18 (by omega)
    | succ m ih =>
      intro k hk J1 y hy g1 g2
      refine gs_iload_n (pc := 10) (gd gk_101 6 rfl) rfl ?_
      refine gs_aload_n (pc := 11) (gd gk_101 7 rfl) rfl ?_
      refine gs_getR (r := 6) (pc := 12) (gd gk_101 8 rfl) rfl rfl rfl (by decide) ?_
      refine gs_getI (pc := 15) (gd gk_101 9 rfl) rfl rfl ?_
      refine gs_as (Int32.ofNat W) (hW3) ?_
      refine gs_icmp_ge (pc := 18) (gd gk_101 10 rfl) (fun c18 => ?_) (fun c18 => ?_)
      · replace c18 : W ≤ (h0 + k) := (zle (k := W) (m := (h0 + k)) (by omega) (by omega)).mp c18
        refine gs_iload_n (pc := 65) (gd gk_101 36 rfl) rfl ?_
        -- end 1: ireturn y, pc 66, locals [(0, .ref (3)), (1, .int (y)), (2, .int (Int32.ofNat (h0 + k)))]
        exact absurd c18 (by omega)
      · replace c18 : ¬ (W ≤ (h0 + k)) := fun q9 => c18 ((zle (k := W) (m := (h0 + k)) (by omega) (by omega)).mpr q9)
        refine gs_aload_n (pc := 21) (gd gk_101 11 rfl) rfl ?_
        refine gs_aload_n (pc := 22) (gd gk_101 12 rfl) rfl ?_
        refine gs_getJ (pc := 23) (gd gk_101 13 rfl) rfl rfl ?_
        refine gs_ldc2_w (pc := 26) (gd gk_101 14 rfl) (6364136223846793005) rfl ?_
        refine gs_lmul (pc := 29) (gd gk_101 15 rfl) ?_
        refine gs_ldc2_w (pc := 30) (gd gk_101 16 rfl) (1442695040888963407) rfl ?_
        refine gs_ladd (pc := 33) (gd gk_101 17 rfl) ?_
        refine gs_putJ (pc := 34) (gd gk_101 18 rfl) rfl rfl rfl rfl (fun J_1 hJ_1 => ?_)
        have e1 : J_1 3 11 = gz_sd x (k + 1) := by rw [hJ_1]; simp [gw_uJ, gz_sd, g1]
        have e2 : ∀ p q, ¬ (p = 3 ∧ q = 11) → J_1 p q = J p q := fun p q hpq => by rw [hJ_1]; unfold gw_uJ; rw [if_neg hpq]; exact g2 p q hpq
        refine gs_aload_n (pc := 37) (gd gk_101 19 rfl) rfl ?_
        refine gs_getJ (pc := 38) (gd gk_101 20 rfl) rfl rfl ?_
        refine gs_bipush (pc := 41) (gd gk_101 21 rfl) (33) rfl ?_
        refine gs_lushr (pc := 43) (gd gk_101 22 rfl) ?_
        refine gs_ldc2_w (pc := 44) (gd gk_101 23 rfl) (2) rfl ?_
        refine gs_lrem (pc := 47) (gd gk_101 24 rfl) (by decide) ?_
        refine gs_lconst (pc := 48) (gd gk_101 25 rfl) (1) rfl ?_
        refine gs_lcmp (pc := 49) (gd gk_101 26 rfl) ?_
        refine gs_if_ne (pc := 50) (gd gk_101 27 rfl) (fun c50 => ?_) (fun c50 => ?_)
        · refine gs_iinc (ls2 := fun v => [(0, .ref (3)), (1, .int (y)), (2, .int (v))]) (pc := 59) (gd gk_101 34 rfl) rfl (by rw [gL_101]; decide) (fun _ => rfl) (1) rfl (fun v2_1 hv2_1 => ?_)
          obtain rfl : v2_1 = Int32.ofNat ((h0 + k) + 1) := hv2_1.trans (by first | rfl | (simp only [Int32.ofNat_add, Int32.ofNat_mul]; rfl) | (simp only [Int32.ofNat_add, Int32.ofNat_mul]))
          refine gs_goto (pc := 62) (gd gk_101 35 rfl) ?_
          -- end 2: stop, pc 10, locals [(0, .ref (3)), (1, .int (y)), (2, .int (Int32.ofNat ((h0 + k) + 1)))]
          rw [zcmp_eq, e1] at c50
          exact ih (k + 1) (by omega) J_1 _ (by rw [hy]; exact (if_neg (by rw [show gz_bk (gz_sd x (k + 1)) = false from decide_eq_false c50]; decide)).symm) e1 e2
        · refine gs_iload_n (pc := 53) (gd gk_101 28 rfl) rfl ?_
          refine gs_iconst (pc := 54) (gd gk_101 29 rfl) (1) rfl ?_
          refine gs_iload_n (pc := 55) (gd gk_101 30 rfl) rfl ?_
          refine gs_ishl (pc := 56) (gd gk_101 31 rfl) ?_
          refine gs_ior (pc := 57) (gd gk_101 32 rfl) ?_
          refine gs_istore_n (ls2 := fun v => [(0, .ref (3)), (1, .int (v)), (2, .int (Int32.ofNat (h0 + k)))]) (pc := 58) (gd gk_101 33 rfl) (by rw [gL_101]; decide) (fun _ => rfl) (fun v1_1 hv1_1 => ?_)
          refine gs_iinc (ls2 := fun v => [(0, .ref (3)), (1, .int (v1_1)), (2, .int (v))]) (pc := 59) (gd gk_101 34 rfl) rfl (by rw [gL_101]; decide) (fun _ => rfl) (1) rfl (fun v2_2 hv2_2 => ?_)
          obtain rfl : v2_2 = Int32.ofNat ((h0 + k) + 1) := hv2_2.trans (by first | rfl | (simp only [Int32.ofNat_add, Int32.ofNat_mul]; rfl) | (simp only [Int32.ofNat_add, Int32.ofNat_mul]))
          refine gs_goto (pc := 62) (gd gk_101 35 rfl) ?_
          -- end 3: stop, pc 10, locals [(0, .ref (3)), (1, .int (v1_1)), (2, .int (Int32.ofNat ((h0 + k) + 1)))]
          rw [zcmp_eq, e1] at c50
          refine ih (k + 1) (by omega) J_1 _ (by rw [hv1_1, hy]; exact (if_pos (show gz_bk (gz_sd x (k + 1)) = true from decide_eq_true c50)).symm) e1 e2
  refine gs_iconst (pc := 0) (gd gk_101 0 rfl) (0) rfl ?_
  refine gs_istore_n (ls2 := fun v => [(0, .ref (3)), (1, .int (v))]) (pc := 1) (gd gk_101 1 rfl) (by rw [gL_101]; decide) (fun _ => rfl) (fun v1_1 hv1_1 => ?_)
  obtain rfl : v1_1 = Int32.ofNat 0 := hv1_1.trans (by first | rfl | (simp only [Int32.ofNat_add, Int32.ofNat_mul]; rfl) | (simp only [Int32.ofNat_add, Int32.ofNat_mul]))
  refine gs_aload_n (pc := 2) (gd gk_101 2 rfl) rfl ?_
  refine gs_getR (r := 12) (pc := 3) (gd gk_101 3 rfl) rfl rfl rfl (by decide) ?_
  refine gs_getI (pc := 6) (gd gk_101 4 rfl) rfl rfl ?_
  refine gs_as (Int32.ofNat (h0 + 0)) (hh) ?_
  refine gs_istore_n (ls2 := fun v => [(0, .ref (3)), (1, .int (Int32.ofNat 0)), (2, .int (v))]) (pc := 9) (gd gk_101 5 rfl) (by rw [gL_101]; decide) (fun _ => rfl) (fun v2_1 hv2_1 => ?_)
  obtain rfl : v2_1 = Int32.ofNat (h0 + 0) := hv2_1.trans (by first | rfl | (simp only [Int32.ofNat_add, Int32.ofNat_mul]; rfl) | (simp only [Int32.ofNat_add, Int32.ofNat_mul]))
  -- end 1: stop, pc 10, locals [(0, .ref (3)), (1, .int (Int32.ofNat 0)), (2, .int (Int32.ofNat (h0 + 0)))]
  exact lp L 0 (by omega) J _ rfl hx (fun _ _ _ => rfl)
abbrev cq_ms (n : Nat) (I : Nat → Nat → Int32) (J : Nat → Nat → Int64) (N h0 L bc : Nat) (a : Int32) : Option Value → gw_W → Prop := fun v w' => ∃ I2 J2, w' = gS n I2 J2 ∧ gq_qf I I2 ∧ (∀ p q, ¬ (p = 3 ∧ q = 11) → J2 p q = J p q) ∧ if 1 ≤ a ∧ a ≤ 20 then v = some (.int (gz_ms (gz_S I) N h0 L bc (I 12 1) (I 13) (J 3 11) a.toNatClampNeg)) ∧ J2 3 11 = gz_sd (J 3 11) (a.toNatClampNeg * L) else v = some (.int (-1000002)) ∧ J2 3 11 = J 3 11
theorem c_mornings (a : Int32) (hn : gq_now I W N h0 L bc) : gw_E V 89 (0, [(0, .ref 3), (1, .int a)], [], gS n I J, 0, 0) (cq_ms n I J N h0 L bc a) := by
  have hW : h0 + L = W := hn.2.2.1
  have hW8 : W ≤ 8 := hn.1.2.1
  by_cases hx : 1 ≤ a ∧ a ≤ 20
  · obtain ⟨e, rfl, he1, he2⟩ := zsm (b := 20) (by decide) hx
    have lp : ∀ (m k : Nat), m + k = e → ∀ I1 J1 y, gq_qf I I1 → y = gz_ms (gz_S I) N h0 L bc (I 12 1) (I 13) (J 3 11) k → J1 3 11 = gz_sd (J 3 11) (k * L) → (∀ p q, ¬ (p = 3 ∧ q = 11) → J1 p q = J p q) → gw_E V 89 (18, [(0, .ref 3), (1, .int (Int32.ofNat e)), (2, .int y), (3, .int (Int32.ofNat k))], [], gS n I1 J1, 0, 0) (cq_ms n I J N h0 L bc (Int32.ofNat e)) := by
      intro m
      induction m with
      | zero =>
        intro k hk I1 J1 y g1 hy g2 g3
        obtain rfl : k = e := by omega
        refine gs_iload_n (pc := 18) (gd gk_89 12 rfl) rfl ?_
        refine gs_iload_n (pc := 19) (gd gk_89 13 rfl) rfl ?_
        refine gs_icmp_ge (pc := 20) (gd gk_89 14 rfl) (fun c20 => ?_) (fun c20 => ?_)
        · replace c20 : k ≤ k := (zle (k := k) (m := k) (by omega) (by omega)).mp c20
          refine gs_iload_n (pc := 47) (gd gk_89 27 rfl) rfl ?_
          -- end 1: ireturn y, pc 48, locals [(0, .ref (3)), (1, .int (Int32.ofNat k)), (2, .int (y)), (3, .int (Int32.ofNat k))]
          exact gs_iret (pc := 48) (gd gk_89 28 rfl) rfl (rfl) (Nat.zero_le _) (Nat.zero_le _) (⟨I1, J1, rfl, g1, g3, by rw [if_pos hx, znn (by omega), hy]; exact ⟨rfl, g2⟩⟩)
        · replace c20 : ¬ (k ≤ k) := fun q9 => c20 ((zle (k := k) (m := k) (by omega) (by omega)).mpr q9)
          -- end 2: stop, pc 23, locals [(0, .ref (3)), (1, .int (Int32.ofNat k)), (2, .int (y)), (3, .int (Int32.ofNat k))]
          exact absurd (Nat.le_refl _) c20
      | succ m ih =>
        intro k hk I1 J1 y g1 hy g2 g3
        have hn1 := gq_now_qf g1 hn
        have hS1 : gz_S I1 = gz_S I := gq_qf_S g1
        refine gs_iload_n (pc := 18) (gd gk_89 12 rfl) rfl ?_
        refine gs_iload_n (pc := 19) (gd gk_89 13 rfl) rfl ?_
        refine gs_icmp_ge (pc := 20) (gd gk_89 14 rfl) (fun c20 => ?_) (fun c20 => ?_)
        · replace c20 : e ≤ k := (zle (k := e) (m := k) (by omega) (by omega)).mp c20
          refine gs_iload_n (pc := 47) (gd gk_89 27 rfl) rfl ?_
          -- end 1: ireturn y, pc 48, locals [(0, .ref (3)), (1, .int (Int32.ofNat e)), (2, .int (y)), (3, .int (Int32.ofNat k))]
          exact absurd c20 (by omega)
        · replace c20 : ¬ (e ≤ k) := fun q9 => c20 ((zle (k := e) (m := k) (by omega) (by omega)).mpr q9)
          refine gs_aload_n (pc := 23) (gd gk_89 15 rfl) rfl ?_
          refine gs_aload_n (pc := 24) (gd gk_89 16 rfl) rfl ?_
          refine gs_callV (as := []) (pc := 25) (gd gk_89 17 rfl) (by decide) rfl (by decide) rfl rfl (Nat.le_of_ble_eq_true rfl) gq_89_101 (Nat.le_of_ble_eq_true rfl) (c_planOfSeed _ g2 hn1) (fun r_25 w_25 q_25 => ?_)
          obtain ⟨rfl, J_s, rfl, s1, s2⟩ := q_25
          refine gs_callV (as := [.int ((gz_ps (gz_sd (J 3 11) (k * L)) h0 L))]) (pc := 28) (gd gk_89 18 rfl) (by decide) rfl (by decide) rfl rfl (Nat.le_of_ble_eq_true rfl) gq_89_98 (Nat.le_of_ble_eq_true rfl) (c_follow (gz_ps (gz_sd (J 3 11) (k * L)) h0 L) hn1) (fun r_28 w_28 q_28 => ?_)
          obtain ⟨rfl, I_f, rfl, f1, f2, f3⟩ := q_28
          refine gs_iload_n (pc := 31) (gd gk_89 19 rfl) rfl ?_
          refine gs_aload_n (pc := 32) (gd gk_89 20 rfl) rfl ?_
          refine gs_getR (r := 57) (pc := 33) (gd gk_89 21 rfl) rfl rfl rfl (by decide) ?_
          refine gs_callV (as := []) (pc := 36) (gd gk_89 22 rfl) (by decide) rfl (by decide) rfl rfl (Nat.le_of_ble_eq_true rfl) gq_89_58 (Nat.le_of_ble_eq_true rfl) (c_comes (L := L) f2.2.2.1 (by omega)) (fun r_36 w_36 q_36 => ?_)
          obtain ⟨rfl, rfl⟩ := q_36
          refine gs_iadd (pc := 39) (gd gk_89 23 rfl) ?_
          refine gs_istore_n (ls2 := fun v => [(0, .ref (3)), (1, .int (Int32.ofNat e)), (2, .int (v)), (3, .int (Int32.ofNat k))]) (pc := 40) (gd gk_89 24 rfl) (by rw [gL_89]; decide) (fun _ => rfl) (fun v2_1 hv2_1 => ?_)
          refine gs_iinc (ls2 := fun v => [(0, .ref (3)), (1, .int (Int32.ofNat e)), (2, .int (v2_1)), (3, .int (v))]) (pc := 41) (gd gk_89 25 rfl) rfl (by rw [gL_89]; decide) (fun _ => rfl) (1) rfl (fun v3_1 hv3_1 => ?_)
          obtain rfl : v3_1 = Int32.ofNat (k + 1) := hv3_1.trans (by first | rfl | (simp only [Int32.ofNat_add, Int32.ofNat_mul]; rfl) | (simp only [Int32.ofNat_add, Int32.ofNat_mul]))
          refine gs_goto (pc := 44) (gd gk_89 26 rfl) ?_
          -- end 2: stop, pc 18, locals [(0, .ref (3)), (1, .int (Int32.ofNat e)), (2, .int (v2_1)), (3, .int (Int32.ofNat (k + 1)))]
          refine ih (k + 1) (by omega) I_f J_s _ (gq_qf_tr g1 f1) ?_ ?_ (fun p q hpq => by rw [s2 p q hpq]; exact g3 p q hpq)
          · rw [hv2_1, hy, (f3 L (Nat.le_refl L)).2.2.1, hS1, g1.1 12 (by omega) (by omega) (by omega), g1.1 13 (by omega) (by omega) (by omega)]
            show _ = _ + _
            congr 1
            refine gq_cm_k (gq_sim_rf _ N) (fun _ _ => rfl) (fun q hq => ?_) (fun _ _ => rfl) (fun _ _ => rfl) (gq_ok_n hn.1) L (Nat.le_refl L)
            show gz_in _ _ = _
            rw [gz_ps_bit _ _ (by omega) L (by omega), decide_eq_true hq, Bool.true_and, gz_sd_add (J 3 11) (k * L)]
          · rw [s1, Nat.succ_mul, gz_sd_add]
    refine gs_iload_n (pc := 0) (gd gk_89 0 rfl) rfl ?_
    refine gs_iconst (pc := 1) (gd gk_89 1 rfl) (1) rfl ?_
    refine gs_icmp_lt (pc := 2) (gd gk_89 2 rfl) (fun c2 => ?_) (fun c2 => ?_)
    · replace c2 : e < 1 := (zlt (k := e) (m := 1) (by omega) (by omega)).mp c2
      refine gs_ldc (pc := 11) (gd gk_89 6 rfl) (-1000002) rfl ?_
      -- end 1: ireturn (-1000002), pc 13, locals [(0, .ref (3)), (1, .int (Int32.ofNat e))]
      exact absurd c2 (by omega)
    · replace c2 : ¬ (e < 1) := fun q9 => c2 ((zlt (k := e) (m := 1) (by omega) (by omega)).mpr q9)
      refine gs_iload_n (pc := 5) (gd gk_89 3 rfl) rfl ?_
      refine gs_bipush (pc := 6) (gd gk_89 4 rfl) (20) rfl ?_
      refine gs_icmp_le (pc := 8) (gd gk_89 5 rfl) (fun c8 => ?_) (fun c8 => ?_)
      · replace c8 : e ≤ 20 := (zle (k := e) (m := 20) (by omega) (by omega)).mp c8
        refine gs_iconst (pc := 14) (gd gk_89 8 rfl) (0) rfl ?_
        refine gs_istore_n (ls2 := fun v => [(0, .ref (3)), (1, .int (Int32.ofNat e)), (2, .int (v))]) (pc := 15) (gd gk_89 9 rfl) (by rw [gL_89]; decide) (fun _ => rfl) (fun v2_1 hv2_1 => ?_)
        obtain rfl : v2_1 = Int32.ofNat 0 := hv2_1.trans (by first | rfl | (simp only [Int32.ofNat_add, Int32.ofNat_mul]; rfl) | (simp only [Int32.ofNat_add, Int32.ofNat_mul]))
        refine gs_iconst (pc := 16) (gd gk_89 10 rfl) (0) rfl ?_
        refine gs_istore_n (ls2 := fun v => [(0, .ref (3)), (1, .int (Int32.ofNat e)), (2, .int (Int32.ofNat 0)), (3, .int (v))]) (pc := 17) (gd gk_89 11 rfl) (by rw [gL_89]; decide) (fun _ => rfl) (fun v3_1 hv3_1 => ?_)
        obtain rfl : v3_1 = Int32.ofNat 0 := hv3_1.trans (by first | rfl | (simp only [Int32.ofNat_add, Int32.ofNat_mul]; rfl) | (simp only [Int32.ofNat_add, Int32.ofNat_mul]))
        -- end 2: stop, pc 18, locals [(0, .ref (3)), (1, .int (Int32.ofNat e)), (2, .int (Int32.ofNat 0)), (3, .int (Int32.ofNat 0))]
        exact lp e 0 (by omega) I J _ ⟨fun _ _ _ _ => rfl, rfl, rfl, rfl⟩ rfl (by rw [Nat.zero_mul]; rfl) (fun _ _ _ => rfl)
      · replace c8 : ¬ (e ≤ 20) := fun q9 => c8 ((zle (k := e) (m := 20) (by omega) (by omega)).mpr q9)
        refine gs_ldc (pc := 11) (gd gk_89 6 rfl) (-1000002) rfl ?_
        -- end 3: ireturn (-1000002), pc 13, locals [(0, .ref (3)), (1, .int (Int32.ofNat e))]
        exact absurd c8 (by omega)
  · skip
    refine gs_iload_n (pc := 0) (gd gk_89 0 rfl) rfl ?_
    refine gs_iconst (pc := 1) (gd gk_89 1 rfl) (1) rfl ?_
    refine gs_icmp_lt (pc := 2) (gd gk_89 2 rfl) (fun c2 => ?_) (fun c2 => ?_)
    · refine gs_ldc (pc := 11) (gd gk_89 6 rfl) (-1000002) rfl ?_
      -- end 1: ireturn (-1000002), pc 13, locals [(0, .ref (3)), (1, .int (a))]
      exact gs_iret (pc := 13) (gd gk_89 7 rfl) rfl (rfl) (Nat.zero_le _) (Nat.zero_le _) (⟨I, J, rfl, ⟨fun _ _ _ _ => rfl, rfl, rfl, rfl⟩, fun _ _ _ => rfl, by rw [if_neg hx]; exact ⟨rfl, rfl⟩⟩)
    · refine gs_iload_n (pc := 5) (gd gk_89 3 rfl) rfl ?_
      refine gs_bipush (pc := 6) (gd gk_89 4 rfl) (20) rfl ?_
      refine gs_icmp_le (pc := 8) (gd gk_89 5 rfl) (fun c8 => ?_) (fun c8 => ?_)
      · -- end 2: stop, pc 14, locals [(0, .ref (3)), (1, .int (a))]
        exact absurd ⟨Int32.not_lt.mp c2, c8⟩ hx
      · refine gs_ldc (pc := 11) (gd gk_89 6 rfl) (-1000002) rfl ?_
        -- end 3: ireturn (-1000002), pc 13, locals [(0, .ref (3)), (1, .int (a))]
        exact gs_iret (pc := 13) (gd gk_89 7 rfl) rfl (rfl) (Nat.zero_le _) (Nat.zero_le _) (⟨I, J, rfl, ⟨fun _ _ _ _ => rfl, rfl, rfl, rfl⟩, fun _ _ _ => rfl, by rw [if_neg hx]; exact ⟨rfl, rfl⟩⟩)
end
