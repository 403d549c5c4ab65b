/-! ===== the class's Walk: an hour ===== -/
theorem c_empty {V : gw_V} {n : Nat} {I : Nat → Nat → Int32} {J : Nat → Nat → Int64} (b : Nat) (ch : Int32) (hc : I 57 6 = ch) (hb : gw_T (gS n I J) b = 12) (hzb : gw_N (gS n I J) b = 10) : gw_E V 56 (0, [(0, .ref 57), (1, .ref b)], [], gS n I J, 0, 0) (fun v w' => v = none ∧ ∃ I2, w' = gS n I2 J ∧ (∀ c, c < 10 → I2 b c = if gz_in ch (Int32.ofNat c) then 0 else I b c) ∧ ∀ p, p ≠ b → I2 p = I p) := by
  have hb57 : 57 ≠ b := fun e => by subst e; have h9 : gw_T (gS n I J) 57 = 9 := rfl; rw [h9] at hb; exact absurd hb (by decide)
  have key : ∀ (m k : Nat), m + k = 10 → ∀ I1, (∀ c, c < k → I1 b c = if gz_in ch (Int32.ofNat c) then 0 else I b c) → (∀ c, k ≤ c → I1 b c = I b c) → (∀ p, p ≠ b → I1 p = I p) → gw_E V 56 (2, [(0, .ref 57), (1, .ref b), (2, .int (Int32.ofNat k))], [], gS n I1 J, 0, 0) (fun v w' => v = none ∧ ∃ I2, w' = gS n I2 J ∧ (∀ c, c < 10 → I2 b c = if gz_in ch (Int32.ofNat c) then 0 else I b c) ∧ ∀ p, p ≠ b → I2 p = I p) := by
    intro m
    induction m with
    | zero =>
      intro k hk I1 h1 h0 h2
      obtain rfl : k = 10 := by omega
      refine gs_iload_n (pc := 2) (gd gk_56 2 rfl) rfl ?_
      refine gs_bipush (pc := 3) (gd gk_56 3 rfl) (10) rfl ?_
      refine gs_icmp_ge (pc := 5) (gd gk_56 4 rfl) (fun c5 => ?_) (fun c5 => ?_)
      · replace c5 : 10 ≤ 10 := (zle (k := 10) (m := 10) (by omega) (by omega)).mp c5
        -- end 1: return, pc 38, locals [(0, .ref (57)), (1, .ref (b)), (2, .int (Int32.ofNat 10))]
        exact gs_ret (pc := 38) (gd gk_56 21 rfl) rfl (Nat.zero_le _) (Nat.zero_le _) (⟨rfl, I1, rfl, h1, h2⟩)
      · replace c5 : ¬ (10 ≤ 10) := fun q9 => c5 ((zle (k := 10) (m := 10) (by omega) (by omega)).mpr q9)
        -- end 2: stop, pc 8, locals [(0, .ref (57)), (1, .ref (b)), (2, .int (Int32.ofNat 10))]
        exact absurd (Nat.le_refl 10) c5
    | succ m ih =>
      intro k hk I1 h1 h0 h2
      have hc1 : I1 57 6 = ch := by rw [h2 57 hb57]; exact hc
      refine gs_iload_n (pc := 2) (gd gk_56 2 rfl) rfl ?_
      refine gs_bipush (pc := 3) (gd gk_56 3 rfl) (10) rfl ?_
      refine gs_icmp_ge (pc := 5) (gd gk_56 4 rfl) (fun c5 => ?_) (fun c5 => ?_)
      · replace c5 : 10 ≤ k := (zle (k := 10) (m := k) (by omega) (by omega)).mp c5
        -- end 1: return, pc 38, locals [(0, .ref (57)), (1, .ref (b)), (2, .int (Int32.ofNat k))]
        exact absurd c5 (by omega)
      · replace c5 : ¬ (10 ≤ k) := fun q9 => c5 ((zle (k := 10) (m := k) (by omega) (by omega)).mpr q9)
        refine gs_aload_n (pc := 8) (gd gk_56 5 rfl) rfl ?_
        refine gs_getI (pc := 9) (gd gk_56 6 rfl) rfl rfl ?_
        refine gs_as (ch) (hc1) ?_
        refine gs_iload_n (pc := 12) (gd gk_56 7 rfl) rfl ?_
        refine gs_ishr (pc := 13) (gd gk_56 8 rfl) ?_
        refine gs_if_eq (pc := 14) (gd gk_56 9 rfl) (fun c14 => ?_) (fun c14 => ?_)
        · -- end 2: return, pc 38, locals [(0, .ref (57)), (1, .ref (b)), (2, .int (Int32.ofNat k))]
          exact gs_ret (pc := 38) (gd gk_56 21 rfl) rfl (Nat.zero_le _) (Nat.zero_le _) (⟨rfl, I1, rfl, fun c hc9 => by
            by_cases q : c < k
            · exact h1 c q
            · rw [gz_none (by omega) c14 (by omega) (by omega)]; exact h0 c (by omega), h2⟩)
        · refine gs_aload_n (pc := 17) (gd gk_56 10 rfl) rfl ?_
          refine gs_getI (pc := 18) (gd gk_56 11 rfl) rfl rfl ?_
          refine gs_as (ch) (hc1) ?_
          refine gs_iload_n (pc := 21) (gd gk_56 12 rfl) rfl ?_
          refine gs_callS (as := [.int (ch), .int (Int32.ofNat k)]) (pc := 22) (gd gk_56 13 rfl) (by decide) rfl rfl (Nat.le_of_ble_eq_true rfl) gq_56_96 (Nat.le_of_ble_eq_true rfl) (c_in (ch) (Int32.ofNat k)) (fun r_22 w_22 q_22 => ?_)
          obtain ⟨rfl, rfl⟩ := q_22
          refine gs_if_eq (pc := 25) (gd gk_56 14 rfl) (fun c25 => ?_) (fun c25 => ?_)
          · refine gs_iinc (ls2 := fun v => [(0, .ref (57)), (1, .ref (b)), (2, .int (v))]) (pc := 32) (gd gk_56 19 rfl) rfl (by rw [gL_56]; decide) (fun _ => rfl) (1) rfl (fun v2_1 hv2_1 => ?_)
            obtain rfl : v2_1 = Int32.ofNat (k + 1) := hv2_1.trans (by first | rfl | (simp only [Int32.ofNat_add, Int32.ofNat_mul]; rfl) | (simp only [Int32.ofNat_add, Int32.ofNat_mul]))
            refine gs_goto (pc := 35) (gd gk_56 20 rfl) ?_
            -- end 3: stop, pc 2, locals [(0, .ref (57)), (1, .ref (b)), (2, .int (Int32.ofNat (k + 1)))]
            refine ih (k + 1) (by omega) I1 (fun c hc9 => ?_) (fun c hc9 => h0 c (by omega)) h2
            by_cases q : c < k
            · exact h1 c q
            · obtain rfl : c = k := by omega
              rw [gz_b_eq.mp c25]; exact h0 c (Nat.le_refl _)
          · refine gs_aload_n (pc := 28) (gd gk_56 15 rfl) rfl ?_
            refine gs_iload_n (pc := 29) (gd gk_56 16 rfl) rfl ?_
            refine gs_iconst (pc := 30) (gd gk_56 17 rfl) (0) rfl ?_
            refine gs_iastoreK (k) (10) gs_sl (pc := 31) (gd gk_56 18 rfl) hb hzb (by decide) (by first | rfl | (simp only [Int32.ofNat_add, Int32.ofNat_mul]; rfl) | (simp only [Int32.ofNat_add, Int32.ofNat_mul])) (by omega) (fun I_1 hI_1 => ?_)
            refine gs_iinc (ls2 := fun v => [(0, .ref (57)), (1, .ref (b)), (2, .int (v))]) (pc := 32) (gd gk_56 19 rfl) rfl (by rw [gL_56]; decide) (fun _ => rfl) (1) rfl (fun v2_2 hv2_2 => ?_)
            obtain rfl : v2_2 = Int32.ofNat (k + 1) := hv2_2.trans (by first | rfl | (simp only [Int32.ofNat_add, Int32.ofNat_mul]; rfl) | (simp only [Int32.ofNat_add, Int32.ofNat_mul]))
            refine gs_goto (pc := 35) (gd gk_56 20 rfl) ?_
            -- end 4: stop, pc 2, locals [(0, .ref (57)), (1, .ref (b)), (2, .int (Int32.ofNat (k + 1)))]
            refine ih (k + 1) (by omega) I_1 (fun c hc9 => ?_) (fun c hc9 => ?_) (fun p hp => ?_)
            · rw [hI_1, gw_u_s]
              unfold upd
              by_cases q : c = k
              · rw [if_pos q, q, gz_b_ne.mp c25]; rfl
              · rw [if_neg q]; exact h1 c (by omega)
            · rw [hI_1, gw_u_s]
              unfold upd
              rw [if_neg (by omega)]; exact h0 c (by omega)
            · rw [hI_1, gw_u_o hp]; exact h2 p hp
  refine gs_iconst (pc := 0) (gd gk_56 0 rfl) (0) rfl ?_
  refine gs_istore_n (ls2 := fun v => [(0, .ref (57)), (1, .ref (b)), (2, .int (v))]) (pc := 1) (gd gk_56 1 rfl) (by rw [gL_56]; decide) (fun _ => rfl) (fun v2_1 hv2_1 => ?_)
  obtain rfl : v2_1 = Int32.ofNat 0 := hv2_1.trans (by first | rfl | (simp only [Int32.ofNat_add, Int32.ofNat_mul]; rfl) | (simp only [Int32.ofNat_add, Int32.ofNat_mul]))
  -- end 1: stop, pc 2, locals [(0, .ref (57)), (1, .ref (b)), (2, .int (Int32.ofNat 0))]
  exact key 10 0 rfl I (fun c hc => absurd hc (Nat.not_lt_zero _)) (fun _ _ => rfl) (fun _ _ => rfl)
/-- what comes in an hour from the first k noses -/
def gq_hc (σ : Nat → Nat → Int32) (sm : Nat → Int32) (bk ea : Bool) (so : Nat → Bool) : Nat → Int32
  | 0 => if bk then -σ 0 2 else 0
  | k + 1 => gq_hc σ sm bk ea so k + (if so k then gq_due σ k (gq_has σ sm k) ea else 0)
theorem c_settle {V : gw_V} {n W N : Nat} {I : Nat → Nat → Int32} {J : Nat → Nat → Int64} (g : Nat) (hg : g < 8) (bk ea : Bool) (hok : gq_ok (gz_S I) W N) : gw_E V 57 (0, [(0, .ref 57), (1, .int (Int32.ofNat g)), (2, .int (gz_b bk)), (3, .int (gz_b ea))], [], gS n I J, 0, 0)
    (fun v w' => v = none ∧ ∃ I2, w' = gS n I2 J ∧ (∀ m, m < N → I2 (69 + (g + 1)) m = I (69 + g) m + gq_due (gz_S I) m (gq_has (gz_S I) (I (59 + (g + 1))) m) ea) ∧ I2 78 (g + 1) = I 78 g + gq_hc (gz_S I) (I (59 + (g + 1))) bk ea (fun _ => true) N ∧ I2 79 (g + 1) = I 79 g ||| gq_who (gz_S I) (I (59 + (g + 1))) N ∧ I2 80 (g + 1) = gq_who (gz_S I) (I (59 + (g + 1))) N
      ∧ (∀ p, p ≠ 69 + (g + 1) → p ≠ 78 → p ≠ 79 → p ≠ 80 → I2 p = I p) ∧ ∀ p q, q ≠ g + 1 → p = 78 ∨ p = 79 ∨ p = 80 → I2 p q = I p q) := by
  obtain ⟨-, -, hN, hN6, -, -, -, -, hns⟩ := id hok
  have hN : I 6 4 = Int32.ofNat N := hN
  generalize hsm : I (59 + (g + 1)) = sm
  have key : ∀ (m k : Nat), m + k = N → ∀ I1 x, x = gq_hc (gz_S I) sm bk ea (fun _ => true) k → (∀ q, q < k → I1 (69 + (g + 1)) q = I (69 + g) q + gq_due (gz_S I) q (gq_has (gz_S I) sm q) ea) → (∀ p, p ≠ 69 + (g + 1) → I1 p = I p) →
      gw_E V 57 (38, [(0, .ref 57), (1, .int (Int32.ofNat g)), (2, .int (gz_b bk)), (3, .int (gz_b ea)), (4, .int (gq_who (gz_S I) sm N)), (5, .int x), (6, .int (Int32.ofNat k))], [], gS n I1 J, 0, 0)
    (fun v w' => v = none ∧ ∃ I2, w' = gS n I2 J ∧ (∀ m, m < N → I2 (69 + (g + 1)) m = I (69 + g) m + gq_due (gz_S I) m (gq_has (gz_S I) sm m) ea) ∧ I2 78 (g + 1) = I 78 g + gq_hc (gz_S I) sm bk ea (fun _ => true) N ∧ I2 79 (g + 1) = I 79 g ||| gq_who (gz_S I) sm N ∧ I2 80 (g + 1) = gq_who (gz_S I) sm N
      ∧ (∀ p, p ≠ 69 + (g + 1) → p ≠ 78 → p ≠ 79 → p ≠ 80 → I2 p = I p) ∧ ∀ p q, q ≠ g + 1 → p = 78 ∨ p = 79 ∨ p = 80 → I2 p q = I p q) := by
    intro m
    induction m with
    | zero =>
      intro k hk I1 x hx h1 h2
      obtain rfl : k = N := by omega
      have hN1 : I1 6 4 = Int32.ofNat k := by rw [h2 6 (by omega)]; exact hN
      refine gs_iload (pc := 38) (gd gk_57 21 rfl) rfl ?_
      refine gs_aload_n (pc := 40) (gd gk_57 22 rfl) rfl ?_
      refine gs_getR (r := 6) (pc := 41) (gd gk_57 23 rfl) rfl rfl rfl (by decide) ?_
      refine gs_getI (pc := 44) (gd gk_57 24 rfl) rfl rfl ?_
      refine gs_as (Int32.ofNat k) (hN1) ?_
      refine gs_icmp_ge (pc := 47) (gd gk_57 25 rfl) (fun c47 => ?_) (fun c47 => ?_)
      · replace c47 : k ≤ k := (zle (k := k) (m := k) (by omega) (by omega)).mp c47
        refine gs_aload_n (pc := 105) (gd gk_57 57 rfl) rfl ?_
        refine gs_getR (r := 78) (pc := 106) (gd gk_57 58 rfl) rfl rfl rfl (by decide) ?_
        refine gs_iload_n (pc := 109) (gd gk_57 59 rfl) rfl ?_
        refine gs_iconst (pc := 110) (gd gk_57 60 rfl) (1) rfl ?_
        refine gs_iadd (pc := 111) (gd gk_57 61 rfl) ?_
        refine gs_aload_n (pc := 112) (gd gk_57 62 rfl) rfl ?_
        refine gs_getR (r := 78) (pc := 113) (gd gk_57 63 rfl) rfl rfl rfl (by decide) ?_
        refine gs_iload_n (pc := 116) (gd gk_57 64 rfl) rfl ?_
        refine gs_ialoadK (g) (9) (pc := 117) (gd gk_57 65 rfl) (Or.inl rfl) rfl (by decide) (by first | rfl | (simp only [Int32.ofNat_add, Int32.ofNat_mul]; rfl) | (simp only [Int32.ofNat_add, Int32.ofNat_mul])) (by omega) ?_
        refine gs_iload (pc := 118) (gd gk_57 66 rfl) rfl ?_
        refine gs_iadd (pc := 120) (gd gk_57 67 rfl) ?_
        refine gs_iastoreK ((g + 1)) (9) gs_sl (pc := 121) (gd gk_57 68 rfl) rfl rfl (by decide) (by first | rfl | (simp only [Int32.ofNat_add, Int32.ofNat_mul]; rfl) | (simp only [Int32.ofNat_add, Int32.ofNat_mul])) (by omega) (fun I_1 hI_1 => ?_)
        refine gs_aload_n (pc := 122) (gd gk_57 69 rfl) rfl ?_
        refine gs_getR (r := 79) (pc := 123) (gd gk_57 70 rfl) rfl rfl rfl (by decide) ?_
        refine gs_iload_n (pc := 126) (gd gk_57 71 rfl) rfl ?_
        refine gs_iconst (pc := 127) (gd gk_57 72 rfl) (1) rfl ?_
        refine gs_iadd (pc := 128) (gd gk_57 73 rfl) ?_
        refine gs_aload_n (pc := 129) (gd gk_57 74 rfl) rfl ?_
        refine gs_getR (r := 79) (pc := 130) (gd gk_57 75 rfl) rfl rfl rfl (by decide) ?_
        refine gs_iload_n (pc := 133) (gd gk_57 76 rfl) rfl ?_
        refine gs_ialoadK (g) (9) (pc := 134) (gd gk_57 77 rfl) (Or.inl rfl) rfl (by decide) (by first | rfl | (simp only [Int32.ofNat_add, Int32.ofNat_mul]; rfl) | (simp only [Int32.ofNat_add, Int32.ofNat_mul])) (by omega) ?_
        refine gs_iload (pc := 135) (gd gk_57 78 rfl) rfl ?_
        refine gs_ior (pc := 137) (gd gk_57 79 rfl) ?_
        refine gs_iastoreK ((g + 1)) (9) gs_sl (pc := 138) (gd gk_57 80 rfl) rfl rfl (by decide) (by first | rfl | (simp only [Int32.ofNat_add, Int32.ofNat_mul]; rfl) | (simp only [Int32.ofNat_add, Int32.ofNat_mul])) (by omega) (fun I_2 hI_2 => ?_)
        refine gs_aload_n (pc := 139) (gd gk_57 81 rfl) rfl ?_
        refine gs_getR (r := 80) (pc := 140) (gd gk_57 82 rfl) rfl rfl rfl (by decide) ?_
        refine gs_iload_n (pc := 143) (gd gk_57 83 rfl) rfl ?_
        refine gs_iconst (pc := 144) (gd gk_57 84 rfl) (1) rfl ?_
        refine gs_iadd (pc := 145) (gd gk_57 85 rfl) ?_
        refine gs_iload (pc := 146) (gd gk_57 86 rfl) rfl ?_
        refine gs_iastoreK ((g + 1)) (9) gs_sl (pc := 148) (gd gk_57 87 rfl) rfl rfl (by decide) (by first | rfl | (simp only [Int32.ofNat_add, Int32.ofNat_mul]; rfl) | (simp only [Int32.ofNat_add, Int32.ofNat_mul])) (by omega) (fun I_3 hI_3 => ?_)
        -- end 1: return, pc 149, locals [(0, .ref (57)), (1, .int (Int32.ofNat g)), (2, .int (gz_b bk)), (3, .int (gz_b ea)), (4, .int (gq_who (gz_S I) sm k)), (5, .int (x)), (6, .int (Int32.ofNat k))]
        have e3 : ∀ p, p ≠ 78 → p ≠ 79 → p ≠ 80 → I_3 p = I1 p := fun p a1 a2 a3 => by rw [hI_3, gw_u_o a3, hI_2, gw_u_o a2, hI_1, gw_u_o a1]
        exact gs_ret (pc := 149) (gd gk_57 88 rfl) rfl (Nat.zero_le _) (Nat.zero_le _) (⟨rfl, I_3, rfl, fun q hq => by rw [e3 _ (by omega) (by omega) (by omega)]; exact h1 q hq, by rw [hI_3, gw_u_o (by omega), hI_2, gw_u_o (by omega), hI_1, gw_u_s, hx, h2 78 (by omega)]; simp [upd], by rw [hI_3, gw_u_o (by omega), hI_2, gw_u_s, hI_1, gw_u_o (by omega), h2 79 (by omega)]; simp [upd], by rw [hI_3, gw_u_s]; simp [upd], fun p a1 a2 a3 a4 => by rw [e3 p a2 a3 a4, h2 p a1], fun p q hq hp => by
          rw [hI_3, hI_2, hI_1, ← h2 p (by omega)]
          simp [gw_u, hq]⟩)
      · replace c47 : ¬ (k ≤ k) := fun q9 => c47 ((zle (k := k) (m := k) (by omega) (by omega)).mpr q9)
        -- end 2: stop, pc 50, locals [(0, .ref (57)), (1, .int (Int32.ofNat g)), (2, .int (gz_b bk)), (3, .int (gz_b ea)), (4, .int (gq_who (gz_S I) sm k)), (5, .int (x)), (6, .int (Int32.ofNat k))]
        exact absurd (Nat.le_refl k) c47
    | succ m ih =>
      intro k hk I1 x hx h1 h2
      have hN1 : I1 6 4 = Int32.ofNat N := by rw [h2 6 (by omega)]; exact hN
      have hS1 : gz_S I1 = gz_S I := gz_S_eq (fun p h6 h11 => h2 p (by omega))
      have hdue : 0 ≤ I1 11 k ∧ I1 11 k ≤ 3 := by rw [h2 11 (by omega)]; exact (hns k (by omega)).2.2.2
      refine gs_iload (pc := 38) (gd gk_57 21 rfl) rfl ?_
      refine gs_aload_n (pc := 40) (gd gk_57 22 rfl) rfl ?_
      refine gs_getR (r := 6) (pc := 41) (gd gk_57 23 rfl) rfl rfl rfl (by decide) ?_
      refine gs_getI (pc := 44) (gd gk_57 24 rfl) rfl rfl ?_
      refine gs_as (Int32.ofNat N) (hN1) ?_
      refine gs_icmp_ge (pc := 47) (gd gk_57 25 rfl) (fun c47 => ?_) (fun c47 => ?_)
      · replace c47 : N ≤ k := (zle (k := N) (m := k) (by omega) (by omega)).mp c47
        refine gs_aload_n (pc := 105) (gd gk_57 57 rfl) rfl ?_
        refine gs_getR (r := 78) (pc := 106) (gd gk_57 58 rfl) rfl rfl rfl (by decide) ?_
        refine gs_iload_n (pc := 109) (gd gk_57 59 rfl) rfl ?_
        refine gs_iconst (pc := 110) (gd gk_57 60 rfl) (1) rfl ?_
        refine gs_iadd (pc := 111) (gd gk_57 61 rfl) ?_
        refine gs_aload_n (pc := 112) (gd gk_57 62 rfl) rfl ?_
        refine gs_getR (r := 78) (pc := 113) (gd gk_57 63 rfl) rfl rfl rfl (by decide) ?_
        refine gs_iload_n (pc := 116) (gd gk_57 64 rfl) rfl ?_
        refine gs_ialoadK (g) (9) (pc := 117) (gd gk_57 65 rfl) (Or.inl rfl) rfl (by decide) (by first | rfl | (simp only [Int32.ofNat_add, Int32.ofNat_mul]; rfl) | (simp only [Int32.ofNat_add, Int32.ofNat_mul])) (by omega) ?_
        refine gs_iload (pc := 118) (gd gk_57 66 rfl) rfl ?_
        refine gs_iadd (pc := 120) (gd gk_57 67 rfl) ?_
        refine gs_iastoreK ((g + 1)) (9) gs_sl (pc := 121) (gd gk_57 68 rfl) rfl rfl (by decide) (by first | rfl | (simp only [Int32.ofNat_add, Int32.ofNat_mul]; rfl) | (simp only [Int32.ofNat_add, Int32.ofNat_mul])) (by omega) (fun I_1 hI_1 => ?_)
        refine gs_aload_n (pc := 122) (gd gk_57 69 rfl) rfl ?_
        refine gs_getR (r := 79) (pc := 123) (gd gk_57 70 rfl) rfl rfl rfl (by decide) ?_
        refine gs_iload_n (pc := 126) (gd gk_57 71 rfl) rfl ?_
        refine gs_iconst (pc := 127) (gd gk_57 72 rfl) (1) rfl ?_
        refine gs_iadd (pc := 128) (gd gk_57 73 rfl) ?_
        refine gs_aload_n (pc := 129) (gd gk_57 74 rfl) rfl ?_
        refine gs_getR (r := 79) (pc := 130) (gd gk_57 75 rfl) rfl rfl rfl (by decide) ?_
        refine gs_iload_n (pc := 133) (gd gk_57 76 rfl) rfl ?_
        refine gs_ialoadK (g) (9) (pc := 134) (gd gk_57 77 rfl) (Or.inl rfl) rfl (by decide) (by first | rfl | (simp only [Int32.ofNat_add, Int32.ofNat_mul]; rfl) | (simp only [Int32.ofNat_add, Int32.ofNat_mul])) (by omega) ?_
        refine gs_iload (pc := 135) (gd gk_57 78 rfl) rfl ?_
        refine gs_ior (pc := 137) (gd gk_57 79 rfl) ?_
        refine gs_iastoreK ((g + 1)) (9) gs_sl (pc := 138) (gd gk_57 80 rfl) rfl rfl (by decide) (by first | rfl | (simp only [Int32.ofNat_add, Int32.ofNat_mul]; rfl) | (simp only [Int32.ofNat_add, Int32.ofNat_mul])) (by omega) (fun I_2 hI_2 => ?_)
        refine gs_aload_n (pc := 139) (gd gk_57 81 rfl) rfl ?_
        refine gs_getR (r := 80) (pc := 140) (gd gk_57 82 rfl) rfl rfl rfl (by decide) ?_
        refine gs_iload_n (pc := 143) (gd gk_57 83 rfl) rfl ?_
        refine gs_iconst (pc := 144) (gd gk_57 84 rfl) (1) rfl ?_
        refine gs_iadd (pc := 145) (gd gk_57 85 rfl) ?_
        refine gs_iload (pc := 146) (gd gk_57 86 rfl) rfl ?_
        refine gs_iastoreK ((g + 1)) (9) gs_sl (pc := 148) (gd gk_57 87 rfl) rfl rfl (by decide) (by first | rfl | (simp only [Int32.ofNat_add, Int32.ofNat_mul]; rfl) | (simp only [Int32.ofNat_add, Int32.ofNat_mul])) (by omega) (fun I_3 hI_3 => ?_)
        -- end 1: return, pc 149, locals [(0, .ref (57)), (1, .int (Int32.ofNat g)), (2, .int (gz_b bk)), (3, .int (gz_b ea)), (4, .int (gq_who (gz_S I) sm N)), (5, .int (x)), (6, .int (Int32.ofNat k))]
        exact absurd c47 (by omega)
      · replace c47 : ¬ (N ≤ k) := fun q9 => c47 ((zle (k := N) (m := k) (by omega) (by omega)).mpr q9)
        refine gs_aload_n (pc := 50) (gd gk_57 26 rfl) rfl ?_
        refine gs_getR (r := 6) (pc := 51) (gd gk_57 27 rfl) rfl rfl rfl (by decide) ?_
        refine gs_iload (pc := 54) (gd gk_57 28 rfl) rfl ?_
        refine gs_iload (pc := 56) (gd gk_57 29 rfl) rfl ?_
        refine gs_iload (pc := 58) (gd gk_57 30 rfl) rfl ?_
        refine gs_callS (as := [.int (gq_who (gz_S I) sm N), .int (Int32.ofNat k)]) (pc := 60) (gd gk_57 31 rfl) (by decide) rfl rfl (Nat.le_of_ble_eq_true rfl) gq_57_96 (Nat.le_of_ble_eq_true rfl) (c_in (gq_who (gz_S I) sm N) (Int32.ofNat k)) (fun r_60 w_60 q_60 => ?_)
        obtain ⟨rfl, rfl⟩ := q_60
        refine gs_iload_n (pc := 63) (gd gk_57 32 rfl) rfl ?_
        refine gs_callV (as := [.int (Int32.ofNat k), .int ((gz_b (gz_in (gq_who (gz_S I) sm N) (Int32.ofNat k)))), .int (gz_b ea)]) (pc := 64) (gd gk_57 33 rfl) (by decide) rfl (by decide) rfl rfl (Nat.le_of_ble_eq_true rfl) gq_57_36 (Nat.le_of_ble_eq_true rfl) (c_due k (by omega) (gz_in (gq_who (gz_S I) sm N) (Int32.ofNat k)) ea hdue) (fun r_64 w_64 q_64 => ?_)
        obtain ⟨rfl, rfl⟩ := q_64
        refine gs_istore (ls2 := fun v => [(0, .ref (57)), (1, .int (Int32.ofNat g)), (2, .int (gz_b bk)), (3, .int (gz_b ea)), (4, .int (gq_who (gz_S I) sm N)), (5, .int (x)), (6, .int (Int32.ofNat k)), (7, .int (v))]) (pc := 67) (gd gk_57 34 rfl) (by rw [gL_57]; decide) (fun _ => rfl) (fun v7_1 hv7_1 => ?_)
        refine gs_aload_n (pc := 69) (gd gk_57 35 rfl) rfl ?_
        refine gs_getR (r := 68) (pc := 70) (gd gk_57 36 rfl) rfl rfl rfl (by decide) ?_
        refine gs_iload_n (pc := 73) (gd gk_57 37 rfl) rfl ?_
        refine gs_iconst (pc := 74) (gd gk_57 38 rfl) (1) rfl ?_
        refine gs_iadd (pc := 75) (gd gk_57 39 rfl) ?_
        refine gs_aaloadK (r := 69 + (g + 1)) ((g + 1)) (9) (pc := 76) (gd gk_57 40 rfl) (Or.inr rfl) rfl (by decide) (by first | rfl | (simp only [Int32.ofNat_add, Int32.ofNat_mul]; rfl) | (simp only [Int32.ofNat_add, Int32.ofNat_mul])) (by omega) rfl (by omega) ?_
        refine gs_iload (pc := 77) (gd gk_57 41 rfl) rfl ?_
        refine gs_aload_n (pc := 79) (gd gk_57 42 rfl) rfl ?_
        refine gs_getR (r := 68) (pc := 80) (gd gk_57 43 rfl) rfl rfl rfl (by decide) ?_
        refine gs_iload_n (pc := 83) (gd gk_57 44 rfl) rfl ?_
        refine gs_aaloadK (r := 69 + g) (g) (9) (pc := 84) (gd gk_57 45 rfl) (Or.inr rfl) rfl (by decide) (by first | rfl | (simp only [Int32.ofNat_add, Int32.ofNat_mul]; rfl) | (simp only [Int32.ofNat_add, Int32.ofNat_mul])) (by omega) rfl (by omega) ?_
        refine gs_iload (pc := 85) (gd gk_57 46 rfl) rfl ?_
        refine gs_ialoadK (k) (6) (pc := 87) (gd gk_57 47 rfl) (Or.inl (gt69 (by omega)).1) (gt69 (by omega)).2 (by decide) (by first | rfl | (simp only [Int32.ofNat_add, Int32.ofNat_mul]; rfl) | (simp only [Int32.ofNat_add, Int32.ofNat_mul])) (by omega) ?_
        refine gs_iload (pc := 88) (gd gk_57 48 rfl) rfl ?_
        refine gs_iadd (pc := 90) (gd gk_57 49 rfl) ?_
        refine gs_iastoreK (k) (6) gs_sl (pc := 91) (gd gk_57 50 rfl) (gt69 (by omega)).1 (gt69 (by omega)).2 (by decide) (by first | rfl | (simp only [Int32.ofNat_add, Int32.ofNat_mul]; rfl) | (simp only [Int32.ofNat_add, Int32.ofNat_mul])) (by omega) (fun I_4 hI_4 => ?_)
        refine gs_iload (pc := 92) (gd gk_57 51 rfl) rfl ?_
        refine gs_iload (pc := 94) (gd gk_57 52 rfl) rfl ?_
        refine gs_iadd (pc := 96) (gd gk_57 53 rfl) ?_
        refine gs_istore (ls2 := fun v => [(0, .ref (57)), (1, .int (Int32.ofNat g)), (2, .int (gz_b bk)), (3, .int (gz_b ea)), (4, .int (gq_who (gz_S I) sm N)), (5, .int (v)), (6, .int (Int32.ofNat k)), (7, .int (v7_1))]) (pc := 97) (gd gk_57 54 rfl) (by rw [gL_57]; decide) (fun _ => rfl) (fun v5_1 hv5_1 => ?_)
        refine gs_iinc (ls2 := fun v => [(0, .ref (57)), (1, .int (Int32.ofNat g)), (2, .int (gz_b bk)), (3, .int (gz_b ea)), (4, .int (gq_who (gz_S I) sm N)), (5, .int (v5_1)), (6, .int (v)), (7, .int (v7_1))]) (pc := 99) (gd gk_57 55 rfl) rfl (by rw [gL_57]; decide) (fun _ => rfl) (1) rfl (fun v6_1 hv6_1 => ?_)
        obtain rfl : v6_1 = Int32.ofNat (k + 1) := hv6_1.trans (by first | rfl | (simp only [Int32.ofNat_add, Int32.ofNat_mul]; rfl) | (simp only [Int32.ofNat_add, Int32.ofNat_mul]))
        refine gs_goto (pc := 102) (gd gk_57 56 rfl) ?_
        -- end 2: stop, pc 38, locals [(0, .ref (57)), (1, .int (Int32.ofNat g)), (2, .int (gz_b bk)), (3, .int (gz_b ea)), (4, .int (gq_who (gz_S I) sm N)), (5, .int (v5_1)), (6, .int (Int32.ofNat (k + 1))), (7, .int (v7_1))]
        have e9 : gq_due (gz_S I1) k (gz_in (gq_who (gz_S I) sm N) (Int32.ofNat k)) ea = gq_due (gz_S I) k (gq_has (gz_S I) sm k) ea := by rw [hS1, gq_who_bit _ _ (by omega) N (by omega), decide_eq_true (by omega : k < N), Bool.true_and]
        rw [e9] at hv7_1
        refine gs_drop [0, 1, 2, 3, 4, 5, 6] rfl (ih (k + 1) (by omega) I_4 _ (by rw [hv5_1, hx, hv7_1]; rfl) (fun q hq => ?_) (fun p hp => ?_))
        · rw [hI_4, gw_u_s]
          unfold upd
          by_cases e : q = k
          · rw [if_pos e, h2 _ (by omega), hv7_1, e]
          · rw [if_neg e]; exact h1 q (by omega)
        · rw [hI_4, gw_u_o hp]; exact h2 p hp
  have join : ∀ x, x = (if bk then -(gz_S I) 0 2 else 0) → gw_E V 57 (33, [(0, .ref 57), (1, .int (Int32.ofNat g)), (2, .int (gz_b bk)), (3, .int (gz_b ea)), (4, .int (gq_who (gz_S I) sm N))], [.int x], gS n I J, 0, 0)
    (fun v w' => v = none ∧ ∃ I2, w' = gS n I2 J ∧ (∀ m, m < N → I2 (69 + (g + 1)) m = I (69 + g) m + gq_due (gz_S I) m (gq_has (gz_S I) sm m) ea) ∧ I2 78 (g + 1) = I 78 g + gq_hc (gz_S I) sm bk ea (fun _ => true) N ∧ I2 79 (g + 1) = I 79 g ||| gq_who (gz_S I) sm N ∧ I2 80 (g + 1) = gq_who (gz_S I) sm N
      ∧ (∀ p, p ≠ 69 + (g + 1) → p ≠ 78 → p ≠ 79 → p ≠ 80 → I2 p = I p) ∧ ∀ p q, q ≠ g + 1 → p = 78 ∨ p = 79 ∨ p = 80 → I2 p q = I p q) := by
    intro x hx
    refine gs_istore (ls2 := fun v => [(0, .ref (57)), (1, .int (Int32.ofNat g)), (2, .int (gz_b bk)), (3, .int (gz_b ea)), (4, .int (gq_who (gz_S I) sm N)), (5, .int (v))]) (pc := 33) (gd gk_57 18 rfl) (by rw [gL_57]; decide) (fun _ => rfl) (fun v5_1 hv5_1 => ?_)
    refine gs_iconst (pc := 35) (gd gk_57 19 rfl) (0) rfl ?_
    refine gs_istore (ls2 := fun v => [(0, .ref (57)), (1, .int (Int32.ofNat g)), (2, .int (gz_b bk)), (3, .int (gz_b ea)), (4, .int (gq_who (gz_S I) sm N)), (5, .int (v5_1)), (6, .int (v))]) (pc := 36) (gd gk_57 20 rfl) (by rw [gL_57]; decide) (fun _ => rfl) (fun v6_1 hv6_1 => ?_)
    obtain rfl : v6_1 = Int32.ofNat 0 := hv6_1.trans (by first | rfl | (simp only [Int32.ofNat_add, Int32.ofNat_mul]; rfl) | (simp only [Int32.ofNat_add, Int32.ofNat_mul]))
    -- end 1: stop, pc 38, locals [(0, .ref (57)), (1, .int (Int32.ofNat g)), (2, .int (gz_b bk)), (3, .int (gz_b ea)), (4, .int (gq_who (gz_S I) sm N)), (5, .int (v5_1)), (6, .int (Int32.ofNat 0))]
    exact key N 0 (by omega) I _ (by rw [hv5_1, hx]; rfl) (fun q hq => absurd hq (Nat.not_lt_zero _)) (fun _ _ => rfl)
  refine gs_aload_n (pc := 0) (gd gk_57 0 rfl) rfl ?_
  refine gs_getR (r := 6) (pc := 1) (gd gk_57 1 rfl) rfl rfl rfl (by decide) ?_
  refine gs_aload_n (pc := 4) (gd gk_57 2 rfl) rfl ?_
  refine gs_getR (r := 58) (pc := 5) (gd gk_57 3 rfl) rfl rfl rfl (by decide) ?_
  refine gs_iload_n (pc := 8) (gd gk_57 4 rfl) rfl ?_
  refine gs_iconst (pc := 9) (gd gk_57 5 rfl) (1) rfl ?_
  refine gs_iadd (pc := 10) (gd gk_57 6 rfl) ?_
  refine gs_aaloadK (r := 59 + (g + 1)) ((g + 1)) (9) (pc := 11) (gd gk_57 7 rfl) (Or.inr rfl) rfl (by decide) (by first | rfl | (simp only [Int32.ofNat_add, Int32.ofNat_mul]; rfl) | (simp only [Int32.ofNat_add, Int32.ofNat_mul])) (by omega) rfl (by omega) ?_
  refine gs_callV (as := [.ref (59 + (g + 1))]) (pc := 12) (gd gk_57 8 rfl) (by decide) rfl (by decide) rfl rfl (Nat.le_of_ble_eq_true rfl) gq_57_35 (Nat.le_of_ble_eq_true rfl) (c_who (W := W) (N := N) (59 + (g + 1)) (gt59 (by omega)).1 (gt59 (by omega)).2 hok) (fun r_12 w_12 q_12 => ?_)
  rw [hsm] at q_12
  obtain ⟨rfl, rfl⟩ := q_12
  refine gs_istore (ls2 := fun v => [(0, .ref (57)), (1, .int (Int32.ofNat g)), (2, .int (gz_b bk)), (3, .int (gz_b ea)), (4, .int (v))]) (pc := 15) (gd gk_57 9 rfl) (by rw [gL_57]; decide) (fun _ => rfl) (fun v4_1 hv4_1 => ?_)
  refine gs_iload_n (pc := 17) (gd gk_57 10 rfl) rfl ?_
  refine gs_if_eq (pc := 18) (gd gk_57 11 rfl) (fun c18 => ?_) (fun c18 => ?_)
  · refine gs_iconst (pc := 32) (gd gk_57 17 rfl) (0) rfl ?_
    -- end 1: stop, pc 33, locals [(0, .ref (57)), (1, .int (Int32.ofNat g)), (2, .int (gz_b bk)), (3, .int (gz_b ea)), (4, .int (v4_1))]
    subst hv4_1
    exact join _ (by rw [gz_b_eq.mp c18]; rfl)
  · refine gs_aload_n (pc := 21) (gd gk_57 12 rfl) rfl ?_
    refine gs_getR (r := 6) (pc := 22) (gd gk_57 13 rfl) rfl rfl rfl (by decide) ?_
    refine gs_getI (pc := 25) (gd gk_57 14 rfl) rfl rfl ?_
    refine gs_ineg (pc := 28) (gd gk_57 15 rfl) ?_
    refine gs_goto (pc := 29) (gd gk_57 16 rfl) ?_
    -- end 2: stop, pc 33, locals [(0, .ref (57)), (1, .int (Int32.ofNat g)), (2, .int (gz_b bk)), (3, .int (gz_b ea)), (4, .int (v4_1))]
    subst hv4_1
    exact join _ (by rw [gz_b_ne.mp c18]; rfl)
