/-! ===== judge: both ===== -/
def gq_fp (row : Int32) (e : Nat) : Nat → Bool := fun q => decide (gz_fg row (e - 1 - q) = 1)
/-- what comes in an hour of a row of figures -/
def gq_jh (σ : Nat → Nat → Int32) (N h0 bc : Nat) (ch : Int32) (s0 : Nat → Int32) (row : Int32) (e k : Nat) : Int32 := gq_hc σ (gq_sq σ (gq_w0 σ h0) (gq_fp row e) bc ch s0 (k + 1)) (gq_fp row e k) (decide (gq_w0 σ h0 k = 1)) (fun _ => true) N
def gq_jb (σ : Nat → Nat → Int32) (N h0 L bc : Nat) (ch : Int32) (s0 : Nat → Int32) (row : Int32) (e k : Nat) : Bool := decide (L ≤ k) || decide (1 < gz_fg row (e - 1 - k)) || decide (gq_jh σ N h0 bc ch s0 row e k < 0)
/-- the first of e that is bad -/
def gz_fst (bad : Nat → Bool) (e : Nat) (y : Int32) : Prop := (∃ k, k < e ∧ bad k = true ∧ (∀ j, j < k → bad j = false) ∧ y = Int32.ofNat k) ∨ ((∀ j, j < e → bad j = false) ∧ y = -99)
theorem gz_fst_one {bad ba2 : Nat → Bool} {e : Nat} {y z : Int32} (h : ∀ k, k < e → bad k = ba2 k) (h1 : gz_fst bad e y) (h2 : gz_fst ba2 e z) : y = z := by
  rcases h1 with ⟨k, a1, a2, a3, rfl⟩ | ⟨a1, rfl⟩ <;> rcases h2 with ⟨j, b1, b2, b3, rfl⟩ | ⟨b1, rfl⟩
  · rcases Nat.lt_trichotomy k j with q | q | q
    · have := b3 k q; rw [← h k a1, a2] at this; cases this
    · rw [q]
    · have := a3 j q; rw [h j b1, b2] at this; cases this
  · have := b1 k a1; rw [← h k a1, a2] at this; cases this
  · have := a1 j b1; rw [h j b1, b2] at this; cases this
  · rfl
def gz_jg (σ : Nat → Nat → Int32) (N h0 L bc : Nat) (ch : Int32) (s0 : Nat → Int32) (x row y : Int32) : Prop := if (1 ≤ x ∧ x ≤ 8) ∧ 0 ≤ row ∧ row < Int32.ofNat (10 ^ x.toNatClampNeg) then gz_fst (gq_jb σ N h0 L bc ch s0 row x.toNatClampNeg) x.toNatClampNeg y else y = -2
theorem gz_pf_bit (row : Int32) (e h0 : Nat) {q : Nat} (hq : h0 + q < 32) : ∀ k, h0 + k ≤ 32 → gz_in (gz_pf row e h0 k) (Int32.ofNat (h0 + q)) = (decide (q < k) && gq_fp row e q)
  | 0, _ => by rw [show gz_pf row e h0 0 = 0 from rfl, gz_zero hq]; simp
  | k + 1, hk => by
    have ih := gz_pf_bit row e h0 hq k (by omega)
    by_cases h : gz_fg row (e - 1 - k) = 1
    · rw [show gz_pf row e h0 (k + 1) = gz_pf row e h0 k ||| (1 <<< (Int32.ofNat (h0 + k) &&& 31)) from if_pos h, gz_or _ _ hq, ih, gz_one (h0 + k) (by omega) (h0 + q) hq]
      by_cases e9 : k = q
      · subst e9; simp [gq_fp, h]
      · have : decide (q < k + 1) = decide (q < k) := by rw [decide_eq_decide]; omega
        have e8 : decide (h0 + k = h0 + q) = false := decide_eq_false (by omega)
        rw [this, e8, Bool.or_false]
    · rw [show gz_pf row e h0 (k + 1) = gz_pf row e h0 k from if_neg h, ih]
      by_cases e9 : k = q
      · subst e9; simp [gq_fp, h]
      · have : decide (q < k + 1) = decide (q < k) := by rw [decide_eq_decide]; omega
        rw [this]
theorem zsmall {x : Int32} (h : 1 ≤ x ∧ x ≤ 8) : ∃ e, x = Int32.ofNat e ∧ 1 ≤ e ∧ e ≤ 8 := by
  have h0 : 0 ≤ x := by grind
  have h1 := znat h0
  have h2 := (zle_l h0 (n := 8) (by decide)).mp h.2
  refine ⟨x.toNatClampNeg, h1.1.symm, ?_, h2⟩
  have h3 := h.1
  rw [← h1.1] at h3
  exact (zle (k := 1) (by decide) (by omega)).mp h3
section
variable {V : gw_V} {n W N h0 L bc : Nat} {I : Nat → Nat → Int32} {J : Nat → Nat → Int64}
abbrev cq_jg (n : Nat) (I : Nat → Nat → Int32) (J : Nat → Nat → Int64) (N h0 L bc : Nat) (x row : Int32) : Option Value → gw_W → Prop := fun v w' => ∃ y, v = some (.int y) ∧ gz_jg (gz_S I) N h0 L bc (I 12 1) (I 13) x row y ∧ ∃ I2, w' = gS n I2 J ∧ gq_qf I I2
theorem c_judge (x row : Int32) (hn : gq_now I W N h0 L bc) (hT : ∀ b, b < 9 → I 2 b = Int32.ofNat (10 ^ b)) : gw_E V 79 (0, [(0, .ref 3), (1, .int x), (2, .int row)], [], gS n I J, 0, 0) (cq_jg n I J N h0 L bc x row) := by
  obtain ⟨hok, hh, hW, hbc, hb9, h78, h79, h69⟩ := id hn
  have hW8 : W ≤ 8 := hok.2.1
  by_cases hx : 1 ≤ x ∧ x ≤ 8
  · obtain ⟨e, rfl, he1, he8⟩ := zsmall hx
    have e2 : I 2 e = Int32.ofNat (10 ^ e) := hT e (by omega)
    have hbad : ∀ c, ¬ (0 ≤ row ∧ row < Int32.ofNat (10 ^ e)) → c = some (Value.int (-2)) → cq_jg n I J N h0 L bc (Int32.ofNat e) row c (gS n I J) := by
      intro c hc hv
      refine ⟨-2, hv, ?_, I, rfl, ⟨fun _ _ _ _ => rfl, rfl, rfl, rfl⟩⟩
      unfold gz_jg
      rw [znn (by omega), if_neg (fun q => hc q.2)]
    have lp : ∀ I1, gq_qf I I1 → gq_on I1 W N h0 L bc → gq_res I1 N L (gz_S I) (gq_w0 (gz_S I) h0) (gq_p0 (gz_pf row e h0 e) h0) bc (I 12 1) (I 13) → (0 ≤ row ∧ row < Int32.ofNat (10 ^ e)) → ∀ (m k : Nat), m + k = e → (∀ j, j < k → gq_jb (gz_S I) N h0 L bc (I 12 1) (I 13) row e j = false) → gw_E V 79 (39, [(0, .ref 3), (1, .int (Int32.ofNat e)), (2, .int row), (3, .int (Int32.ofNat k))], [], gS n I1 J, 0, 0) (cq_jg n I J N h0 L bc (Int32.ofNat e) row) := by
      intro I1 g1 g2 g3 g4 m
      have fin : ∀ y, gz_fst (gq_jb (gz_S I) N h0 L bc (I 12 1) (I 13) row e) e y → cq_jg n I J N h0 L bc (Int32.ofNat e) row (some (.int y)) (gS n I1 J) := by
        intro y hy
        refine ⟨y, rfl, ?_, I1, rfl, g1⟩
        unfold gz_jg
        rw [znn (by omega), if_pos ⟨hx, g4⟩]
        exact hy
      have hL1 : I1 57 12 = Int32.ofNat L := g2.2.2.1
      have hT1 : ∀ b, b < 9 → I1 2 b = Int32.ofNat (10 ^ b) := fun b hb => by rw [g1.1 2 (by omega) (by omega) (by omega)]; exact hT b hb
      have hin : ∀ k, k < L → k < e → I1 78 (k + 1) - I1 78 k = gq_jh (gz_S I) N h0 bc (I 12 1) (I 13) row e k := by
        intro k hk hke
        rw [(g3 (k + 1) (by omega)).2.2.1, (g3 k (by omega)).2.2.1]
        have hp : ∀ q, q < k + 1 → gq_p0 (gz_pf row e h0 e) h0 q = gq_fp row e q := fun q hq => by
          show gz_in _ _ = _
          rw [gz_pf_bit row e h0 (by omega) e (by omega), decide_eq_true (by omega), Bool.true_and]
        show gq_cm _ _ _ _ _ _ _ _ k + gq_hc _ _ _ _ _ _ - gq_cm _ _ _ _ _ _ _ _ k = _
        rw [hp k (by omega), gq_hc_c (gq_sq_k (gq_sim_rf _ N) (fun _ _ => rfl) hp (fun _ _ => rfl) (k + 1) (Nat.le_refl _)) (gq_ok_n hok)]
        unfold gq_jh
        grind
      induction m with
      | zero =>
        intro k hk a1
        obtain rfl : k = e := by omega
        refine gs_iload_n (pc := 39) (gd gk_79 23 rfl) rfl ?_
        refine gs_iload_n (pc := 40) (gd gk_79 24 rfl) rfl ?_
        refine gs_icmp_ge (pc := 41) (gd gk_79 25 rfl) (fun c41 => ?_) (fun c41 => ?_)
        · replace c41 : k ≤ k := (zle (k := k) (m := k) (by omega) (by omega)).mp c41
          refine gs_bipush (pc := 84) (gd gk_79 46 rfl) (-99) rfl ?_
          -- end 1: ireturn (-99), pc 86, locals [(0, .ref (3)), (1, .int (Int32.ofNat k)), (2, .int (row)), (3, .int (Int32.ofNat k))]
          exact gs_iret (pc := 86) (gd gk_79 47 rfl) rfl (rfl) (Nat.zero_le _) (Nat.zero_le _) (fin _ (.inr ⟨a1, rfl⟩))
        · replace c41 : ¬ (k ≤ k) := fun q9 => c41 ((zle (k := k) (m := k) (by omega) (by omega)).mpr q9)
          -- end 2: stop, pc 44, locals [(0, .ref (3)), (1, .int (Int32.ofNat k)), (2, .int (row)), (3, .int (Int32.ofNat k))]
          exact absurd (Nat.le_refl _) c41
      | succ m ih =>
        intro k hk a1
        refine gs_iload_n (pc := 39) (gd gk_79 23 rfl) rfl ?_
        refine gs_iload_n (pc := 40) (gd gk_79 24 rfl) rfl ?_
        refine gs_icmp_ge (pc := 41) (gd gk_79 25 rfl) (fun c41 => ?_) (fun c41 => ?_)
        · replace c41 : e ≤ k := (zle (k := e) (m := k) (by omega) (by omega)).mp c41
          refine gs_bipush (pc := 84) (gd gk_79 46 rfl) (-99) rfl ?_
          -- end 1: ireturn (-99), pc 86, locals [(0, .ref (3)), (1, .int (Int32.ofNat e)), (2, .int (row)), (3, .int (Int32.ofNat k))]
          exact absurd c41 (by omega)
        · replace c41 : ¬ (e ≤ k) := fun q9 => c41 ((zle (k := e) (m := k) (by omega) (by omega)).mpr q9)
          refine gs_iload_n (pc := 44) (gd gk_79 26 rfl) rfl ?_
          refine gs_aload_n (pc := 45) (gd gk_79 27 rfl) rfl ?_
          refine gs_getR (r := 57) (pc := 46) (gd gk_79 28 rfl) rfl rfl rfl (by decide) ?_
          refine gs_getI (pc := 49) (gd gk_79 29 rfl) rfl rfl ?_
          refine gs_as (Int32.ofNat L) (hL1) ?_
          refine gs_icmp_ge (pc := 52) (gd gk_79 30 rfl) (fun c52 => ?_) (fun c52 => ?_)
          · replace c52 : L ≤ k := (zle (k := L) (m := k) (by omega) (by omega)).mp c52
            refine gs_iload_n (pc := 76) (gd gk_79 42 rfl) rfl ?_
            -- end 2: ireturn Int32.ofNat k, pc 77, locals [(0, .ref (3)), (1, .int (Int32.ofNat e)), (2, .int (row)), (3, .int (Int32.ofNat k))]
            exact gs_iret (pc := 77) (gd gk_79 43 rfl) rfl (rfl) (Nat.zero_le _) (Nat.zero_le _) (fin _ (.inl ⟨k, by omega, by unfold gq_jb; rw [decide_eq_true c52]; rfl, a1, rfl⟩))
          · replace c52 : ¬ (L ≤ k) := fun q9 => c52 ((zle (k := L) (m := k) (by omega) (by omega)).mpr q9)
            refine gs_iload_n (pc := 55) (gd gk_79 31 rfl) rfl ?_
            refine gs_iload_n (pc := 56) (gd gk_79 32 rfl) rfl ?_
            refine gs_iload_n (pc := 57) (gd gk_79 33 rfl) rfl ?_
            refine gs_callS (as := [.int (Int32.ofNat e), .int (row), .int (Int32.ofNat k)]) (pc := 58) (gd gk_79 34 rfl) (by decide) rfl rfl (Nat.le_of_ble_eq_true rfl) gq_79_99 (Nat.le_of_ble_eq_true rfl) (c_figureAt e k row he8 (by omega) hT1) (fun r_58 w_58 q_58 => ?_)
            obtain ⟨rfl, rfl⟩ := q_58
            refine gs_iconst (pc := 61) (gd gk_79 35 rfl) (1) rfl ?_
            refine gs_icmp_gt (pc := 62) (gd gk_79 36 rfl) (fun c62 => ?_) (fun c62 => ?_)
            · refine gs_iload_n (pc := 76) (gd gk_79 42 rfl) rfl ?_
              -- end 3: ireturn Int32.ofNat k, pc 77, locals [(0, .ref (3)), (1, .int (Int32.ofNat e)), (2, .int (row)), (3, .int (Int32.ofNat k))]
              exact gs_iret (pc := 77) (gd gk_79 43 rfl) rfl (rfl) (Nat.zero_le _) (Nat.zero_le _) (fin _ (.inl ⟨k, by omega, by unfold gq_jb; rw [decide_eq_true c62, Bool.or_true]; rfl, a1, rfl⟩))
            · refine gs_aload_n (pc := 65) (gd gk_79 37 rfl) rfl ?_
              refine gs_getR (r := 57) (pc := 66) (gd gk_79 38 rfl) rfl rfl rfl (by decide) ?_
              refine gs_iload_n (pc := 69) (gd gk_79 39 rfl) rfl ?_
              refine gs_callV (as := [.int (Int32.ofNat k)]) (pc := 70) (gd gk_79 40 rfl) (by decide) rfl (by decide) rfl rfl (Nat.le_of_ble_eq_true rfl) gq_79_59 (Nat.le_of_ble_eq_true rfl) (c_inhour k (by omega)) (fun r_70 w_70 q_70 => ?_)
              obtain ⟨rfl, rfl⟩ := q_70
              rw [hin k (by omega) (by omega)]
              refine gs_if_ge (pc := 73) (gd gk_79 41 rfl) (fun c73 => ?_) (fun c73 => ?_)
              · refine gs_iinc (ls2 := fun v => [(0, .ref (3)), (1, .int (Int32.ofNat e)), (2, .int (row)), (3, .int (v))]) (pc := 78) (gd gk_79 44 rfl) rfl (by rw [gL_79]; decide) (fun _ => rfl) (1) rfl (fun v3_1 hv3_1 => ?_)
                obtain rfl : v3_1 = Int32.ofNat (k + 1) := hv3_1.trans (by first | rfl | (simp only [Int32.ofNat_add, Int32.ofNat_mul]; rfl) | (simp only [Int32.ofNat_add, Int32.ofNat_mul]))
                refine gs_goto (pc := 81) (gd gk_79 45 rfl) ?_
                -- end 4: stop, pc 39, locals [(0, .ref (3)), (1, .int (Int32.ofNat e)), (2, .int (row)), (3, .int (Int32.ofNat (k + 1)))]
                refine ih (k + 1) (by omega) (fun j hj => ?_)
                by_cases q : j = k
                · rw [q]; unfold gq_jb; rw [decide_eq_false c52, decide_eq_false c62, decide_eq_false (Int32.not_lt.mpr c73)]; rfl
                · exact a1 j (by omega)
              · refine gs_iload_n (pc := 76) (gd gk_79 42 rfl) rfl ?_
                -- end 5: ireturn Int32.ofNat k, pc 77, locals [(0, .ref (3)), (1, .int (Int32.ofNat e)), (2, .int (row)), (3, .int (Int32.ofNat k))]
                exact gs_iret (pc := 77) (gd gk_79 43 rfl) rfl (rfl) (Nat.zero_le _) (Nat.zero_le _) (fin _ (.inl ⟨k, by omega, by unfold gq_jb; rw [decide_eq_true (Int32.not_le.mp c73), Bool.or_true], a1, rfl⟩))
    refine gs_iload_n (pc := 0) (gd gk_79 0 rfl) rfl ?_
    refine gs_iconst (pc := 1) (gd gk_79 1 rfl) (1) rfl ?_
    refine gs_icmp_lt (pc := 2) (gd gk_79 2 rfl) (fun c2 => ?_) (fun c2 => ?_)
    · replace c2 : e < 1 := (zlt (k := e) (m := 1) (by omega) (by omega)).mp c2
      refine gs_bipush (pc := 24) (gd gk_79 13 rfl) (-2) rfl ?_
      -- end 1: ireturn (-2), pc 26, locals [(0, .ref (3)), (1, .int (Int32.ofNat e)), (2, .int (row))]
      exact absurd c2 (by omega)
    · replace c2 : ¬ (e < 1) := fun q9 => c2 ((zlt (k := e) (m := 1) (by omega) (by omega)).mpr q9)
      refine gs_iload_n (pc := 5) (gd gk_79 3 rfl) rfl ?_
      refine gs_bipush (pc := 6) (gd gk_79 4 rfl) (8) rfl ?_
      refine gs_icmp_gt (pc := 8) (gd gk_79 5 rfl) (fun c8 => ?_) (fun c8 => ?_)
      · replace c8 : 8 < e := (zlt (k := 8) (m := e) (by omega) (by omega)).mp c8
        refine gs_bipush (pc := 24) (gd gk_79 13 rfl) (-2) rfl ?_
        -- end 2: ireturn (-2), pc 26, locals [(0, .ref (3)), (1, .int (Int32.ofNat e)), (2, .int (row))]
        exact absurd c8 (by omega)
      · replace c8 : ¬ (8 < e) := fun q9 => c8 ((zlt (k := 8) (m := e) (by omega) (by omega)).mpr q9)
        refine gs_iload_n (pc := 11) (gd gk_79 6 rfl) rfl ?_
        refine gs_if_lt (pc := 12) (gd gk_79 7 rfl) (fun c12 => ?_) (fun c12 => ?_)
        · refine gs_bipush (pc := 24) (gd gk_79 13 rfl) (-2) rfl ?_
          -- end 3: ireturn (-2), pc 26, locals [(0, .ref (3)), (1, .int (Int32.ofNat e)), (2, .int (row))]
          exact gs_iret (pc := 26) (gd gk_79 14 rfl) rfl (rfl) (Nat.zero_le _) (Nat.zero_le _) (hbad _ (fun q => Int32.not_lt.mpr q.1 c12) rfl)
        · refine gs_iload_n (pc := 15) (gd gk_79 8 rfl) rfl ?_
          refine gs_gets (pc := 16) (gd gk_79 9 rfl) ?_
          refine gs_iload_n (pc := 19) (gd gk_79 10 rfl) rfl ?_
          refine gs_ialoadK (e) (9) (pc := 20) (gd gk_79 11 rfl) (Or.inr ⟨rfl, by decide⟩) rfl (by decide) (by first | rfl | (simp only [Int32.ofNat_add, Int32.ofNat_mul]; rfl) | (simp only [Int32.ofNat_add, Int32.ofNat_mul])) (by omega) ?_
          refine gs_as (Int32.ofNat (10 ^ e)) (e2) ?_
          refine gs_icmp_lt (pc := 21) (gd gk_79 12 rfl) (fun c21 => ?_) (fun c21 => ?_)
          · refine gs_aload_n (pc := 27) (gd gk_79 15 rfl) rfl ?_
            refine gs_aload_n (pc := 28) (gd gk_79 16 rfl) rfl ?_
            refine gs_iload_n (pc := 29) (gd gk_79 17 rfl) rfl ?_
            refine gs_iload_n (pc := 30) (gd gk_79 18 rfl) rfl ?_
            refine gs_callV (as := [.int (Int32.ofNat e), .int (row)]) (pc := 31) (gd gk_79 19 rfl) (by decide) rfl (by decide) rfl rfl (Nat.le_of_ble_eq_true rfl) gq_79_100 (Nat.le_of_ble_eq_true rfl) (c_planOfFigures e h0 row he8 hh hT) (fun r_31 w_31 q_31 => ?_)
            obtain ⟨rfl, rfl⟩ := q_31
            refine gs_callV (as := [.int ((gz_pf row e h0 e))]) (pc := 34) (gd gk_79 20 rfl) (by decide) rfl (by decide) rfl rfl (Nat.le_of_ble_eq_true rfl) gq_79_98 (Nat.le_of_ble_eq_true rfl) (c_follow (gz_pf row e h0 e) hn) (fun r_34 w_34 q_34 => ?_)
            obtain ⟨rfl, I_f, rfl, f1, f2, f3⟩ := q_34
            refine gs_iconst (pc := 37) (gd gk_79 21 rfl) (0) rfl ?_
            refine gs_istore_n (ls2 := fun v => [(0, .ref (3)), (1, .int (Int32.ofNat e)), (2, .int (row)), (3, .int (v))]) (pc := 38) (gd gk_79 22 rfl) (by rw [gL_79]; decide) (fun _ => rfl) (fun v3_1 hv3_1 => ?_)
            obtain rfl : v3_1 = Int32.ofNat 0 := hv3_1.trans (by first | rfl | (simp only [Int32.ofNat_add, Int32.ofNat_mul]; rfl) | (simp only [Int32.ofNat_add, Int32.ofNat_mul]))
            -- end 4: stop, pc 39, locals [(0, .ref (3)), (1, .int (Int32.ofNat e)), (2, .int (row)), (3, .int (Int32.ofNat 0))]
            exact lp I_f f1 f2 f3 ⟨Int32.not_lt.mp c12, c21⟩ e 0 (by omega) (fun j hj => absurd hj (Nat.not_lt_zero _))
          · refine gs_bipush (pc := 24) (gd gk_79 13 rfl) (-2) rfl ?_
            -- end 5: ireturn (-2), pc 26, locals [(0, .ref (3)), (1, .int (Int32.ofNat e)), (2, .int (row))]
            exact gs_iret (pc := 26) (gd gk_79 14 rfl) rfl (rfl) (Nat.zero_le _) (Nat.zero_le _) (hbad _ (fun q => c21 q.2) rfl)
  · have hbad : ∀ c, c = some (Value.int (-2)) → cq_jg n I J N h0 L bc x row c (gS n I J) := by
      intro c hv
      refine ⟨-2, hv, ?_, I, rfl, ⟨fun _ _ _ _ => rfl, rfl, rfl, rfl⟩⟩
      unfold gz_jg
      rw [if_neg (fun q => hx q.1)]
    refine gs_iload_n (pc := 0) (gd gk_79 0 rfl) rfl ?_
    refine gs_iconst (pc := 1) (gd gk_79 1 rfl) (1) rfl ?_
    refine gs_icmp_lt (pc := 2) (gd gk_79 2 rfl) (fun c2 => ?_) (fun c2 => ?_)
    · refine gs_bipush (pc := 24) (gd gk_79 13 rfl) (-2) rfl ?_
      -- end 1: ireturn (-2), pc 26, locals [(0, .ref (3)), (1, .int (x)), (2, .int (row))]
      exact gs_iret (pc := 26) (gd gk_79 14 rfl) rfl (rfl) (Nat.zero_le _) (Nat.zero_le _) (hbad _ rfl)
    · refine gs_iload_n (pc := 5) (gd gk_79 3 rfl) rfl ?_
      refine gs_bipush (pc := 6) (gd gk_79 4 rfl) (8) rfl ?_
      refine gs_icmp_gt (pc := 8) (gd gk_79 5 rfl) (fun c8 => ?_) (fun c8 => ?_)
      · refine gs_bipush (pc := 24) (gd gk_79 13 rfl) (-2) rfl ?_
        -- end 2: ireturn (-2), pc 26, locals [(0, .ref (3)), (1, .int (x)), (2, .int (row))]
        exact gs_iret (pc := 26) (gd gk_79 14 rfl) rfl (rfl) (Nat.zero_le _) (Nat.zero_le _) (hbad _ rfl)
      · -- end 3: stop, pc 11, locals [(0, .ref (3)), (1, .int (x)), (2, .int (row))]
        exact absurd ⟨Int32.not_lt.mp c2, Int32.not_lt.mp c8⟩ hx
end
