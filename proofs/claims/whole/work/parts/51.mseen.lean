/-! ===== what was seen: the reference ===== -/
theorem gq_ag_iff {A : Nat → Nat → Bool} {W N : Nat} {no ho : Nat → Nat} {hd : Nat → Bool} : ∀ {k : Nat}, gq_ag A W N no ho hd k = true ↔ ∀ j, j < k → no j < N → ho j < W → A (ho j) (no j) = hd j
  | 0 => ⟨fun _ j hj => absurd hj (Nat.not_lt_zero _), fun _ => rfl⟩
  | k + 1 => by
    unfold gq_ag
    rw [Bool.and_eq_true, gq_ag_iff (k := k)]
    constructor
    · rintro ⟨h1, h2⟩ j hj h3 h4
      by_cases e : j = k
      · subst e
        simpa [h3, h4] using h2
      · exact h1 j (by omega) h3 h4
    · intro h
      refine ⟨fun j hj => h j (by omega), ?_⟩
      by_cases h3 : no k < N
      · by_cases h4 : ho k < W
        · simp [h k (by omega) h3 h4]
        · simp [h4]
      · simp [h3]
/-- the reference's sights, in numbers -/
def gm_si (I : Nat → Nat → Int32) (sz : Nat) (no ho : Nat → Nat) (hd : Nat → Bool) : Prop := I 126 25 = Int32.ofNat sz ∧ sz ≤ 6 ∧ ∀ k, k < sz → I 138 k = Int32.ofNat (no k) ∧ no k < 6 ∧ I 139 k = Int32.ofNat (ho k) ∧ ho k < 8 ∧ I 140 k = gz_b (hd k)
theorem gz_lt_o {a b : Nat} (ha : a < 1000) (hb : b < 1000) : gz_lt (Int32.ofNat a) b = decide (a < b) := by
  unfold gz_lt
  congr 1
  exact propext ⟨fun q => (zlt (by omega) (by omega)).mp q.2, fun q => ⟨z0 a (by omega), (zlt (by omega) (by omega)).mpr q⟩⟩
/-- what looking back may change -/
def gm_sf (I I2 : Nat → Nat → Int32) : Prop := (∀ p, p ≠ 133 → p ≠ 135 → I2 p = I p) ∧ ∀ q, q < 26 → I2 133 q = I 133 q
theorem gm_sf_q {I I2 : Nat → Nat → Int32} (h : gm_sf I I2) : gm_qf I I2 := ⟨fun p _ _ _ _ _ a b _ _ _ => h.1 p a b, fun q a => h.2 q (by omega), fun q _ _ _ _ _ _ _ _ => by rw [h.1 126 (by omega) (by omega)]⟩
section
variable {V : gw_V} {n W N h0 L bc : Nat} {I : Nat → Nat → Int32} {J : Nat → Nat → Int64}
abbrev mq_sn (n : Nat) (I : Nat → Nat → Int32) (J : Nat → Nat → Int64) (b : Bool) : Option Value → gw_W → Prop := fun v w' => ∃ I2, w' = gS n I2 J ∧ gm_sf I I2 ∧ v = some (.int (gz_b b))
/-- the inner loop: the sights of an hour -/
theorem m_seen_in {Q : Option Value → gw_W → Prop} (pl : Int32) (h sz : Nat) (no ho : Nat → Nat) (hd : Nat → Bool) (A : Nat → Bool) (hs : gm_si I sz no ho hd) (hok : gq_ok (gz_M I) W N) (hh8 : h < 8) (hA : ∀ m, m < N → gq_has (gz_M I) (gz_L I 2) m = A m) (b : Bool) (go : ∀ b2 : Bool, (b2 = true ↔ ∀ j, j < sz → ho j = h → no j < N → A (no j) = hd j) → gw_E V 149 (28, [(0, .ref 126), (1, .int pl), (2, .int (gz_b (b && b2))), (3, .int (Int32.ofNat (h + 1)))], [], gS n I J, 0, 0) Q) : gw_E V 149 (49, [(0, .ref 126), (1, .int pl), (2, .int (gz_b b)), (3, .int (Int32.ofNat h))], [], gS n I J, 0, 0) Q := by
  obtain ⟨hz, h6, hsi⟩ := hs
  have hN : I 126 4 = Int32.ofNat N := hok.2.2.1
  have hN6 : N ≤ 6 := hok.2.2.2.1
  have lp : ∀ (m k : Nat), m + k = sz → ∀ b2 : Bool, (b2 = true ↔ ∀ j, j < k → ho j = h → no j < N → A (no j) = hd j) → gw_E V 149 (52, [(0, .ref 126), (1, .int pl), (2, .int (gz_b (b && b2))), (3, .int (Int32.ofNat h)), (4, .int (Int32.ofNat k))], [], gS n I J, 0, 0) Q := by
    intro m
    induction m with
    | zero =>
      intro k hk b2 hb2
      obtain rfl : k = sz := by omega
      refine gs_iload (pc := 52) (gd gk_149 32 rfl) rfl ?_
      refine gs_aload_n (pc := 54) (gd gk_149 33 rfl) rfl ?_
      refine gs_getI (pc := 55) (gd gk_149 34 rfl) rfl rfl ?_
      refine gs_as (Int32.ofNat k) (hz) ?_
      refine gs_icmp_ge (pc := 58) (gd gk_149 35 rfl) (fun c58 => ?_) (fun c58 => ?_)
      · replace c58 : k ≤ k := (zle (k := k) (m := k) (by omega) (by omega)).mp c58
        refine gs_iinc (ls2 := fun v => [(0, .ref (126)), (1, .int (pl)), (2, .int (gz_b (b && b2))), (3, .int (v)), (4, .int (Int32.ofNat k))]) (pc := 136) (gd gk_149 75 rfl) rfl (by rw [gL_149]; decide) (fun _ => rfl) (1) rfl (fun v3_1 hv3_1 => ?_)
        obtain rfl : v3_1 = Int32.ofNat (h + 1) := hv3_1.trans (by first | rfl | (simp only [Int32.ofNat_add, Int32.ofNat_mul]; rfl) | (simp only [Int32.ofNat_add, Int32.ofNat_mul]))
        refine gs_goto (pc := 139) (gd gk_149 76 rfl) ?_
        -- end 1: stop, pc 28, locals [(0, .ref (126)), (1, .int (pl)), (2, .int (gz_b (b && b2))), (3, .int (Int32.ofNat (h + 1))), (4, .int (Int32.ofNat k))]
        exact gs_drop [0, 1, 2, 3] rfl (go b2 hb2)
      · replace c58 : ¬ (k ≤ k) := fun q9 => c58 ((zle (k := k) (m := k) (by omega) (by omega)).mpr q9)
        -- end 2: stop, pc 61, locals [(0, .ref (126)), (1, .int (pl)), (2, .int (gz_b (b && b2))), (3, .int (Int32.ofNat h)), (4, .int (Int32.ofNat k))]
        exact absurd (Nat.le_refl _) c58
    | succ m ih =>
      intro k hk b2 hb2
      obtain ⟨e1, e2, e3, e4, e5⟩ := hsi k (by omega)
      have hbk : ∀ b3 : Bool, (b3 = true ↔ (ho k = h → no k < N → A (no k) = hd k)) → ((b2 && b3) = true ↔ ∀ j, j < k + 1 → ho j = h → no j < N → A (no j) = hd j) := by
        intro b3 hb3
        rw [Bool.and_eq_true, hb2, hb3]
        constructor
        · rintro ⟨q1, q2⟩ j hj
          by_cases e : j = k
          · subst e; exact q2
          · exact q1 j (by omega)
        · exact fun q => ⟨fun j hj => q j (by omega), q k (by omega)⟩
      have fin : ∀ b3 : Bool, (b3 = true ↔ (ho k = h → no k < N → A (no k) = hd k)) → gw_E V 149 (52, [(0, .ref 126), (1, .int pl), (2, .int (gz_b ((b && b2) && b3))), (3, .int (Int32.ofNat h)), (4, .int (Int32.ofNat (k + 1)))], [], gS n I J, 0, 0) Q := fun b3 hb3 => by
        rw [Bool.and_assoc]
        exact ih (k + 1) (by omega) (b2 && b3) (hbk b3 hb3)
      have tail : gw_E V 149 (93, [(0, .ref 126), (1, .int pl), (2, .int (gz_b (b && b2))), (3, .int (Int32.ofNat h)), (4, .int (Int32.ofNat k)), (5, .int (gz_b (decide (ho k = h) && decide (no k < N))))], [], gS n I J, 0, 0) Q := by
        by_cases hl : (decide (ho k = h) && decide (no k < N)) = true
        · have hl2 : ho k = h ∧ no k < N := by rw [Bool.and_eq_true] at hl; exact ⟨of_decide_eq_true hl.1, of_decide_eq_true hl.2⟩
          refine gs_iload_n (pc := 93) (gd gk_149 53 rfl) rfl ?_
          refine gs_if_eq (pc := 94) (gd gk_149 54 rfl) (fun c94 => ?_) (fun c94 => ?_)
          · refine gs_iconst (pc := 128) (gd gk_149 71 rfl) (0) rfl ?_
            refine gs_istore_n (ls2 := fun v => [(0, .ref (126)), (1, .int (pl)), (2, .int (v)), (3, .int (Int32.ofNat h)), (4, .int (Int32.ofNat k)), (5, .int (gz_b (decide (ho k = h) && decide (no k < N))))]) (pc := 129) (gd gk_149 72 rfl) (by rw [gL_149]; decide) (fun _ => rfl) (fun v2_1 hv2_1 => ?_)
            obtain rfl : v2_1 = Int32.ofNat 0 := hv2_1.trans (by first | rfl | (simp only [Int32.ofNat_add, Int32.ofNat_mul]; rfl) | (simp only [Int32.ofNat_add, Int32.ofNat_mul]))
            refine gs_iinc (ls2 := fun v => [(0, .ref (126)), (1, .int (pl)), (2, .int (Int32.ofNat 0)), (3, .int (Int32.ofNat h)), (4, .int (v)), (5, .int (gz_b (decide (ho k = h) && decide (no k < N))))]) (pc := 130) (gd gk_149 73 rfl) rfl (by rw [gL_149]; decide) (fun _ => rfl) (1) rfl (fun v4_1 hv4_1 => ?_)
            obtain rfl : v4_1 = Int32.ofNat (k + 1) := hv4_1.trans (by first | rfl | (simp only [Int32.ofNat_add, Int32.ofNat_mul]; rfl) | (simp only [Int32.ofNat_add, Int32.ofNat_mul]))
            refine gs_goto (pc := 133) (gd gk_149 74 rfl) ?_
            -- end 1: stop, pc 52, locals [(0, .ref (126)), (1, .int (pl)), (2, .int (Int32.ofNat 0)), (3, .int (Int32.ofNat h)), (4, .int (Int32.ofNat (k + 1))), (5, .int (gz_b (decide (ho k = h) && decide (no k < N))))]
            have := fin (decide (A (no k) = hd k)) ⟨fun q _ _ => of_decide_eq_true q, fun q => decide_eq_true (q hl2.1 hl2.2)⟩
            rw [show gz_b ((b && b2) && decide (A (no k) = hd k)) = Int32.ofNat 0 by rw [gz_b_eq.mp c94]; rfl] at this
            exact gs_drop [0, 1, 2, 3, 4] rfl this
          · refine gs_iload (pc := 97) (gd gk_149 55 rfl) rfl ?_
            refine gs_if_eq (pc := 99) (gd gk_149 56 rfl) (fun c99 => ?_) (fun c99 => ?_)
            · refine gs_iconst (pc := 124) (gd gk_149 69 rfl) (1) rfl ?_
              refine gs_goto (pc := 125) (gd gk_149 70 rfl) ?_
              refine gs_istore_n (ls2 := fun v => [(0, .ref (126)), (1, .int (pl)), (2, .int (v)), (3, .int (Int32.ofNat h)), (4, .int (Int32.ofNat k)), (5, .int (gz_b (decide (ho k = h) && decide (no k < N))))]) (pc := 129) (gd gk_149 72 rfl) (by rw [gL_149]; decide) (fun _ => rfl) (fun v2_2 hv2_2 => ?_)
              obtain rfl : v2_2 = Int32.ofNat 1 := hv2_2.trans (by first | rfl | (simp only [Int32.ofNat_add, Int32.ofNat_mul]; rfl) | (simp only [Int32.ofNat_add, Int32.ofNat_mul]))
              refine gs_iinc (ls2 := fun v => [(0, .ref (126)), (1, .int (pl)), (2, .int (Int32.ofNat 1)), (3, .int (Int32.ofNat h)), (4, .int (v)), (5, .int (gz_b (decide (ho k = h) && decide (no k < N))))]) (pc := 130) (gd gk_149 73 rfl) rfl (by rw [gL_149]; decide) (fun _ => rfl) (1) rfl (fun v4_2 hv4_2 => ?_)
              obtain rfl : v4_2 = Int32.ofNat (k + 1) := hv4_2.trans (by first | rfl | (simp only [Int32.ofNat_add, Int32.ofNat_mul]; rfl) | (simp only [Int32.ofNat_add, Int32.ofNat_mul]))
              refine gs_goto (pc := 133) (gd gk_149 74 rfl) ?_
              -- end 2: stop, pc 52, locals [(0, .ref (126)), (1, .int (pl)), (2, .int (Int32.ofNat 1)), (3, .int (Int32.ofNat h)), (4, .int (Int32.ofNat (k + 1))), (5, .int (gz_b (decide (ho k = h) && decide (no k < N))))]
              exact absurd (gz_b_eq.mp c99) (by rw [hl]; decide)
            · refine gs_aload_n (pc := 102) (gd gk_149 57 rfl) rfl ?_
              refine gs_iconst (pc := 103) (gd gk_149 58 rfl) (2) rfl ?_
              refine gs_aload_n (pc := 104) (gd gk_149 59 rfl) rfl ?_
              refine gs_getR (r := 138) (pc := 105) (gd gk_149 60 rfl) rfl rfl rfl (by decide) ?_
              refine gs_iload (pc := 108) (gd gk_149 61 rfl) rfl ?_
              refine gs_ialoadK (k) (6) (pc := 110) (gd gk_149 62 rfl) (Or.inl rfl) rfl (by decide) (by first | rfl | (simp only [Int32.ofNat_add, Int32.ofNat_mul]; rfl) | (simp only [Int32.ofNat_add, Int32.ofNat_mul])) (by omega) ?_
              refine gs_as (Int32.ofNat (no k)) (e1) ?_
              refine gs_callV (as := [.int (2), .int (Int32.ofNat (no k))]) (pc := 111) (gd gk_149 63 rfl) (by decide) rfl (by decide) rfl rfl (Nat.le_of_ble_eq_true rfl) gq_149_121 (Nat.le_of_ble_eq_true rfl) (m_hasIt 2 (no k) (by omega) (by omega) (gq_ok_n hok (no k) hl2.2)) (fun r_111 w_111 q_111 => ?_)
              obtain ⟨rfl, rfl⟩ := q_111
              refine gs_aload_n (pc := 114) (gd gk_149 64 rfl) rfl ?_
              refine gs_getR (r := 140) (pc := 115) (gd gk_149 65 rfl) rfl rfl rfl (by decide) ?_
              refine gs_iload (pc := 118) (gd gk_149 66 rfl) rfl ?_
              refine gs_baloadK (k) (6) (pc := 120) (gd gk_149 67 rfl) rfl rfl (by decide) (by first | rfl | (simp only [Int32.ofNat_add, Int32.ofNat_mul]; rfl) | (simp only [Int32.ofNat_add, Int32.ofNat_mul])) (by omega) ?_
              refine gs_as (gz_b (hd k)) (e5) ?_
              refine gs_icmp_ne (pc := 121) (gd gk_149 68 rfl) (fun c121 => ?_) (fun c121 => ?_)
              · refine gs_iconst (pc := 128) (gd gk_149 71 rfl) (0) rfl ?_
                refine gs_istore_n (ls2 := fun v => [(0, .ref (126)), (1, .int (pl)), (2, .int (v)), (3, .int (Int32.ofNat h)), (4, .int (Int32.ofNat k)), (5, .int (gz_b (decide (ho k = h) && decide (no k < N))))]) (pc := 129) (gd gk_149 72 rfl) (by rw [gL_149]; decide) (fun _ => rfl) (fun v2_3 hv2_3 => ?_)
                obtain rfl : v2_3 = Int32.ofNat 0 := hv2_3.trans (by first | rfl | (simp only [Int32.ofNat_add, Int32.ofNat_mul]; rfl) | (simp only [Int32.ofNat_add, Int32.ofNat_mul]))
                refine gs_iinc (ls2 := fun v => [(0, .ref (126)), (1, .int (pl)), (2, .int (Int32.ofNat 0)), (3, .int (Int32.ofNat h)), (4, .int (v)), (5, .int (gz_b (decide (ho k = h) && decide (no k < N))))]) (pc := 130) (gd gk_149 73 rfl) rfl (by rw [gL_149]; decide) (fun _ => rfl) (1) rfl (fun v4_3 hv4_3 => ?_)
                obtain rfl : v4_3 = Int32.ofNat (k + 1) := hv4_3.trans (by first | rfl | (simp only [Int32.ofNat_add, Int32.ofNat_mul]; rfl) | (simp only [Int32.ofNat_add, Int32.ofNat_mul]))
                refine gs_goto (pc := 133) (gd gk_149 74 rfl) ?_
                -- end 3: stop, pc 52, locals [(0, .ref (126)), (1, .int (pl)), (2, .int (Int32.ofNat 0)), (3, .int (Int32.ofNat h)), (4, .int (Int32.ofNat (k + 1))), (5, .int (gz_b (decide (ho k = h) && decide (no k < N))))]
                have hne : ¬ A (no k) = hd k := fun e => c121 (by rw [hA (no k) hl2.2, e])
                have := fin (decide (A (no k) = hd k)) ⟨fun q _ _ => of_decide_eq_true q, fun q => decide_eq_true (q hl2.1 hl2.2)⟩
                rw [show gz_b ((b && b2) && decide (A (no k) = hd k)) = Int32.ofNat 0 by rw [decide_eq_false hne, Bool.and_false]; rfl] at this
                exact gs_drop [0, 1, 2, 3, 4] rfl this
              · refine gs_iconst (pc := 124) (gd gk_149 69 rfl) (1) rfl ?_
                refine gs_goto (pc := 125) (gd gk_149 70 rfl) ?_
                refine gs_istore_n (ls2 := fun v => [(0, .ref (126)), (1, .int (pl)), (2, .int (v)), (3, .int (Int32.ofNat h)), (4, .int (Int32.ofNat k)), (5, .int (gz_b (decide (ho k = h) && decide (no k < N))))]) (pc := 129) (gd gk_149 72 rfl) (by rw [gL_149]; decide) (fun _ => rfl) (fun v2_4 hv2_4 => ?_)
                obtain rfl : v2_4 = Int32.ofNat 1 := hv2_4.trans (by first | rfl | (simp only [Int32.ofNat_add, Int32.ofNat_mul]; rfl) | (simp only [Int32.ofNat_add, Int32.ofNat_mul]))
                refine gs_iinc (ls2 := fun v => [(0, .ref (126)), (1, .int (pl)), (2, .int (Int32.ofNat 1)), (3, .int (Int32.ofNat h)), (4, .int (v)), (5, .int (gz_b (decide (ho k = h) && decide (no k < N))))]) (pc := 130) (gd gk_149 73 rfl) rfl (by rw [gL_149]; decide) (fun _ => rfl) (1) rfl (fun v4_4 hv4_4 => ?_)
                obtain rfl : v4_4 = Int32.ofNat (k + 1) := hv4_4.trans (by first | rfl | (simp only [Int32.ofNat_add, Int32.ofNat_mul]; rfl) | (simp only [Int32.ofNat_add, Int32.ofNat_mul]))
                refine gs_goto (pc := 133) (gd gk_149 74 rfl) ?_
                -- end 4: stop, pc 52, locals [(0, .ref (126)), (1, .int (pl)), (2, .int (Int32.ofNat 1)), (3, .int (Int32.ofNat h)), (4, .int (Int32.ofNat (k + 1))), (5, .int (gz_b (decide (ho k = h) && decide (no k < N))))]
                have hne : A (no k) = hd k := by rw [hA (no k) hl2.2] at c121; exact gz_b_inj c121
                have := fin (decide (A (no k) = hd k)) ⟨fun q _ _ => of_decide_eq_true q, fun q => decide_eq_true (q hl2.1 hl2.2)⟩
                rw [show gz_b ((b && b2) && decide (A (no k) = hd k)) = Int32.ofNat 1 by rw [decide_eq_true hne, gz_b_ne.mp c94]; rfl] at this
                exact gs_drop [0, 1, 2, 3, 4] rfl this
        · skip
          refine gs_iload_n (pc := 93) (gd gk_149 53 rfl) rfl ?_
          refine gs_if_eq (pc := 94) (gd gk_149 54 rfl) (fun c94 => ?_) (fun c94 => ?_)
          · refine gs_iconst (pc := 128) (gd gk_149 71 rfl) (0) rfl ?_
            refine gs_istore_n (ls2 := fun v => [(0, .ref (126)), (1, .int (pl)), (2, .int (v)), (3, .int (Int32.ofNat h)), (4, .int (Int32.ofNat k)), (5, .int (gz_b (decide (ho k = h) && decide (no k < N))))]) (pc := 129) (gd gk_149 72 rfl) (by rw [gL_149]; decide) (fun _ => rfl) (fun v2_1 hv2_1 => ?_)
            obtain rfl : v2_1 = Int32.ofNat 0 := hv2_1.trans (by first | rfl | (simp only [Int32.ofNat_add, Int32.ofNat_mul]; rfl) | (simp only [Int32.ofNat_add, Int32.ofNat_mul]))
            refine gs_iinc (ls2 := fun v => [(0, .ref (126)), (1, .int (pl)), (2, .int (Int32.ofNat 0)), (3, .int (Int32.ofNat h)), (4, .int (v)), (5, .int (gz_b (decide (ho k = h) && decide (no k < N))))]) (pc := 130) (gd gk_149 73 rfl) rfl (by rw [gL_149]; decide) (fun _ => rfl) (1) rfl (fun v4_1 hv4_1 => ?_)
            obtain rfl : v4_1 = Int32.ofNat (k + 1) := hv4_1.trans (by first | rfl | (simp only [Int32.ofNat_add, Int32.ofNat_mul]; rfl) | (simp only [Int32.ofNat_add, Int32.ofNat_mul]))
            refine gs_goto (pc := 133) (gd gk_149 74 rfl) ?_
            -- end 1: stop, pc 52, locals [(0, .ref (126)), (1, .int (pl)), (2, .int (Int32.ofNat 0)), (3, .int (Int32.ofNat h)), (4, .int (Int32.ofNat (k + 1))), (5, .int (gz_b (decide (ho k = h) && decide (no k < N))))]
            have := fin true ⟨fun _ q1 q2 => absurd (by rw [decide_eq_true q1, decide_eq_true q2]; rfl) hl, fun _ => rfl⟩
            rw [show gz_b ((b && b2) && true) = Int32.ofNat 0 by rw [gz_b_eq.mp c94]; rfl] at this
            exact gs_drop [0, 1, 2, 3, 4] rfl this
          · refine gs_iload (pc := 97) (gd gk_149 55 rfl) rfl ?_
            refine gs_if_eq (pc := 99) (gd gk_149 56 rfl) (fun c99 => ?_) (fun c99 => ?_)
            · refine gs_iconst (pc := 124) (gd gk_149 69 rfl) (1) rfl ?_
              refine gs_goto (pc := 125) (gd gk_149 70 rfl) ?_
              refine gs_istore_n (ls2 := fun v => [(0, .ref (126)), (1, .int (pl)), (2, .int (v)), (3, .int (Int32.ofNat h)), (4, .int (Int32.ofNat k)), (5, .int (gz_b (decide (ho k = h) && decide (no k < N))))]) (pc := 129) (gd gk_149 72 rfl) (by rw [gL_149]; decide) (fun _ => rfl) (fun v2_2 hv2_2 => ?_)
              obtain rfl : v2_2 = Int32.ofNat 1 := hv2_2.trans (by first | rfl | (simp only [Int32.ofNat_add, Int32.ofNat_mul]; rfl) | (simp only [Int32.ofNat_add, Int32.ofNat_mul]))
              refine gs_iinc (ls2 := fun v => [(0, .ref (126)), (1, .int (pl)), (2, .int (Int32.ofNat 1)), (3, .int (Int32.ofNat h)), (4, .int (v)), (5, .int (gz_b (decide (ho k = h) && decide (no k < N))))]) (pc := 130) (gd gk_149 73 rfl) rfl (by rw [gL_149]; decide) (fun _ => rfl) (1) rfl (fun v4_2 hv4_2 => ?_)
              obtain rfl : v4_2 = Int32.ofNat (k + 1) := hv4_2.trans (by first | rfl | (simp only [Int32.ofNat_add, Int32.ofNat_mul]; rfl) | (simp only [Int32.ofNat_add, Int32.ofNat_mul]))
              refine gs_goto (pc := 133) (gd gk_149 74 rfl) ?_
              -- end 2: stop, pc 52, locals [(0, .ref (126)), (1, .int (pl)), (2, .int (Int32.ofNat 1)), (3, .int (Int32.ofNat h)), (4, .int (Int32.ofNat (k + 1))), (5, .int (gz_b (decide (ho k = h) && decide (no k < N))))]
              have := fin true ⟨fun _ q1 q2 => absurd (by rw [decide_eq_true q1, decide_eq_true q2]; rfl) hl, fun _ => rfl⟩
              rw [show gz_b ((b && b2) && true) = Int32.ofNat 1 by rw [gz_b_ne.mp c94]; rfl] at this
              exact gs_drop [0, 1, 2, 3, 4] rfl this
            · -- end 3: stop, pc 102, locals [(0, .ref (126)), (1, .int (pl)), (2, .int (gz_b (b && b2))), (3, .int (Int32.ofNat h)), (4, .int (Int32.ofNat k)), (5, .int (gz_b (decide (ho k = h) && decide (no k < N))))]
              exact absurd (gz_b_ne.mp c99) hl
      refine gs_iload (pc := 52) (gd gk_149 32 rfl) rfl ?_
      refine gs_aload_n (pc := 54) (gd gk_149 33 rfl) rfl ?_
      refine gs_getI (pc := 55) (gd gk_149 34 rfl) rfl rfl ?_
      refine gs_as (Int32.ofNat sz) (hz) ?_
      refine gs_icmp_ge (pc := 58) (gd gk_149 35 rfl) (fun c58 => ?_) (fun c58 => ?_)
      · replace c58 : sz ≤ k := (zle (k := sz) (m := k) (by omega) (by omega)).mp c58
        refine gs_iinc (ls2 := fun v => [(0, .ref (126)), (1, .int (pl)), (2, .int (gz_b (b && b2))), (3, .int (v)), (4, .int (Int32.ofNat k))]) (pc := 136) (gd gk_149 75 rfl) rfl (by rw [gL_149]; decide) (fun _ => rfl) (1) rfl (fun v3_1 hv3_1 => ?_)
        obtain rfl : v3_1 = Int32.ofNat (h + 1) := hv3_1.trans (by first | rfl | (simp only [Int32.ofNat_add, Int32.ofNat_mul]; rfl) | (simp only [Int32.ofNat_add, Int32.ofNat_mul]))
        refine gs_goto (pc := 139) (gd gk_149 76 rfl) ?_
        -- end 1: stop, pc 28, locals [(0, .ref (126)), (1, .int (pl)), (2, .int (gz_b (b && b2))), (3, .int (Int32.ofNat (h + 1))), (4, .int (Int32.ofNat k))]
        exact absurd c58 (by omega)
      · replace c58 : ¬ (sz ≤ k) := fun q9 => c58 ((zle (k := sz) (m := k) (by omega) (by omega)).mpr q9)
        refine gs_aload_n (pc := 61) (gd gk_149 36 rfl) rfl ?_
        refine gs_getR (r := 139) (pc := 62) (gd gk_149 37 rfl) rfl rfl rfl (by decide) ?_
        refine gs_iload (pc := 65) (gd gk_149 38 rfl) rfl ?_
        refine gs_ialoadK (k) (6) (pc := 67) (gd gk_149 39 rfl) (Or.inl rfl) rfl (by decide) (by first | rfl | (simp only [Int32.ofNat_add, Int32.ofNat_mul]; rfl) | (simp only [Int32.ofNat_add, Int32.ofNat_mul])) (by omega) ?_
        refine gs_as (Int32.ofNat (ho k)) (e3) ?_
        refine gs_iload_n (pc := 68) (gd gk_149 40 rfl) rfl ?_
        refine gs_icmp_ne (pc := 69) (gd gk_149 41 rfl) (fun c69 => ?_) (fun c69 => ?_)
        · replace c69 : ¬ ((ho k) = h) := fun q9 => c69 ((zeq (k := (ho k)) (m := h) (by omega) (by omega)).mpr q9)
          refine gs_iconst (pc := 90) (gd gk_149 51 rfl) (0) rfl ?_
          refine gs_istore (ls2 := fun v => [(0, .ref (126)), (1, .int (pl)), (2, .int (gz_b (b && b2))), (3, .int (Int32.ofNat h)), (4, .int (Int32.ofNat k)), (5, .int (v))]) (pc := 91) (gd gk_149 52 rfl) (by rw [gL_149]; decide) (fun _ => rfl) (fun v5_1 hv5_1 => ?_)
          obtain rfl : v5_1 = Int32.ofNat 0 := hv5_1.trans (by first | rfl | (simp only [Int32.ofNat_add, Int32.ofNat_mul]; rfl) | (simp only [Int32.ofNat_add, Int32.ofNat_mul]))
          -- end 2: stop, pc 93, locals [(0, .ref (126)), (1, .int (pl)), (2, .int (gz_b (b && b2))), (3, .int (Int32.ofNat h)), (4, .int (Int32.ofNat k)), (5, .int (Int32.ofNat 0))]
          rw [show gz_b (decide (ho k = h) && decide (no k < N)) = Int32.ofNat 0 by rw [decide_eq_false c69]; rfl] at tail
          exact tail
        · replace c69 : (ho k) = h := (zeq (k := (ho k)) (m := h) (by omega) (by omega)).mp c69
          refine gs_aload_n (pc := 72) (gd gk_149 42 rfl) rfl ?_
          refine gs_aload_n (pc := 73) (gd gk_149 43 rfl) rfl ?_
          refine gs_getR (r := 138) (pc := 74) (gd gk_149 44 rfl) rfl rfl rfl (by decide) ?_
          refine gs_iload (pc := 77) (gd gk_149 45 rfl) rfl ?_
          refine gs_ialoadK (k) (6) (pc := 79) (gd gk_149 46 rfl) (Or.inl rfl) rfl (by decide) (by first | rfl | (simp only [Int32.ofNat_add, Int32.ofNat_mul]; rfl) | (simp only [Int32.ofNat_add, Int32.ofNat_mul])) (by omega) ?_
          refine gs_as (Int32.ofNat (no k)) (e1) ?_
          refine gs_callV (as := [.int (Int32.ofNat (no k))]) (pc := 80) (gd gk_149 47 rfl) (by decide) rfl (by decide) rfl rfl (Nat.le_of_ble_eq_true rfl) gq_149_118 (Nat.le_of_ble_eq_true rfl) (m_isNose _ hN hN6) (fun r_80 w_80 q_80 => ?_)
          obtain ⟨rfl, rfl⟩ := q_80
          refine gs_if_eq (pc := 83) (gd gk_149 48 rfl) (fun c83 => ?_) (fun c83 => ?_)
          · refine gs_iconst (pc := 90) (gd gk_149 51 rfl) (0) rfl ?_
            refine gs_istore (ls2 := fun v => [(0, .ref (126)), (1, .int (pl)), (2, .int (gz_b (b && b2))), (3, .int (Int32.ofNat h)), (4, .int (Int32.ofNat k)), (5, .int (v))]) (pc := 91) (gd gk_149 52 rfl) (by rw [gL_149]; decide) (fun _ => rfl) (fun v5_2 hv5_2 => ?_)
            obtain rfl : v5_2 = Int32.ofNat 0 := hv5_2.trans (by first | rfl | (simp only [Int32.ofNat_add, Int32.ofNat_mul]; rfl) | (simp only [Int32.ofNat_add, Int32.ofNat_mul]))
            -- end 3: stop, pc 93, locals [(0, .ref (126)), (1, .int (pl)), (2, .int (gz_b (b && b2))), (3, .int (Int32.ofNat h)), (4, .int (Int32.ofNat k)), (5, .int (Int32.ofNat 0))]
            have hq := gz_b_eq.mp c83
            rw [gz_lt_o (by omega) (by omega)] at hq
            rw [show gz_b (decide (ho k = h) && decide (no k < N)) = Int32.ofNat 0 by rw [hq, Bool.and_false]; rfl] at tail
            exact tail
          · refine gs_iconst (pc := 86) (gd gk_149 49 rfl) (1) rfl ?_
            refine gs_goto (pc := 87) (gd gk_149 50 rfl) ?_
            refine gs_istore (ls2 := fun v => [(0, .ref (126)), (1, .int (pl)), (2, .int (gz_b (b && b2))), (3, .int (Int32.ofNat h)), (4, .int (Int32.ofNat k)), (5, .int (v))]) (pc := 91) (gd gk_149 52 rfl) (by rw [gL_149]; decide) (fun _ => rfl) (fun v5_3 hv5_3 => ?_)
            obtain rfl : v5_3 = Int32.ofNat 1 := hv5_3.trans (by first | rfl | (simp only [Int32.ofNat_add, Int32.ofNat_mul]; rfl) | (simp only [Int32.ofNat_add, Int32.ofNat_mul]))
            -- end 4: stop, pc 93, locals [(0, .ref (126)), (1, .int (pl)), (2, .int (gz_b (b && b2))), (3, .int (Int32.ofNat h)), (4, .int (Int32.ofNat k)), (5, .int (Int32.ofNat 1))]
            have hq := gz_b_ne.mp c83
            rw [gz_lt_o (by omega) (by omega)] at hq
            rw [show gz_b (decide (ho k = h) && decide (no k < N)) = Int32.ofNat 1 by rw [hq, decide_eq_true c69]; rfl] at tail
            exact tail
  refine gs_iconst (pc := 49) (gd gk_149 30 rfl) (0) rfl ?_
  refine gs_istore (ls2 := fun v => [(0, .ref (126)), (1, .int (pl)), (2, .int (gz_b b)), (3, .int (Int32.ofNat h)), (4, .int (v))]) (pc := 50) (gd gk_149 31 rfl) (by rw [gL_149]; decide) (fun _ => rfl) (fun v4_1 hv4_1 => ?_)
  obtain rfl : v4_1 = Int32.ofNat 0 := hv4_1.trans (by first | rfl | (simp only [Int32.ofNat_add, Int32.ofNat_mul]; rfl) | (simp only [Int32.ofNat_add, Int32.ofNat_mul]))
  -- end 1: stop, pc 52, locals [(0, .ref (126)), (1, .int (pl)), (2, .int (gz_b b)), (3, .int (Int32.ofNat h)), (4, .int (Int32.ofNat 0))]
  have := lp sz 0 (by omega) true ⟨fun _ j hj => absurd hj (Nat.not_lt_zero _), fun _ => rfl⟩
  rw [Bool.and_true] at this
  exact this
end
