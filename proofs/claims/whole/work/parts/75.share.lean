/-! ===== shares: the class ===== -/
theorem gy_S_b {f : Nat → Int} {C : Int} : ∀ k : Nat, (∀ q, q < k → -C ≤ f q ∧ f q ≤ C) → -((k : Int) * C) ≤ gy_S f k ∧ gy_S f k ≤ (k : Int) * C
  | 0, _ => by show -(((0 : Nat) : Int) * C) ≤ 0 ∧ 0 ≤ ((0 : Nat) : Int) * C; rw [Int.ofNat_zero, Int.zero_mul]; decide
  | k + 1, h => by
    have ih := gy_S_b k (fun q hq => h q (by omega))
    have hk := h k (by omega)
    have e : ((k + 1 : Nat) : Int) * C = (k : Int) * C + C := by rw [Int.natCast_succ, Int.add_mul, Int.one_mul]
    rw [e]
    show -((k : Int) * C + C) ≤ gy_S f k + f k ∧ gy_S f k + f k ≤ (k : Int) * C + C
    omega
/-- what a nose's share is, times the number of orders -/
def gz_sj (b : Nat → Int32) (N m : Nat) : Int := gy_S (fun s => if s.testBit m then 0 else ((gz_fc (gz_pc s) * gz_fc (N - 1 - gz_pc s) : Nat) : Int) * ((b (s + 2 ^ m)).toInt - (b s).toInt)) (2 ^ N)
def gz_sa (b : Nat → Int32) (N : Nat) (x : Int32) (up : Bool) : Int32 := if gz_lt x N then (Int64.ofInt (gz_fr (gz_sj b N x.toNatClampNeg) (gz_fc N) up)).toInt32 else -1000001
theorem gz_gr0 : ∀ N, N < 7 → ∀ m, m < N → ∀ s, s < 2 ^ N → (s.testBit m || (decide (s + 2 ^ m < 2 ^ N) && decide (gz_pc s ≤ N - 1) && decide (Int32.ofNat s ||| (1 <<< (Int32.ofNat m &&& 31)) = Int32.ofNat (s + 2 ^ m)))) = true := by decide +kernel
theorem gz_gr {N m s : Nat} (hN : N ≤ 6) (hm : m < N) (hs : s < 2 ^ N) (h : s.testBit m = false) : s + 2 ^ m < 2 ^ N ∧ gz_pc s ≤ N - 1 ∧ Int32.ofNat s ||| (1 <<< (Int32.ofNat m &&& 31)) = Int32.ofNat (s + 2 ^ m) := by
  have := gz_gr0 N (by omega) m hm s hs
  rw [h, Bool.false_or, Bool.and_eq_true, Bool.and_eq_true, decide_eq_true_eq, decide_eq_true_eq, decide_eq_true_eq] at this
  exact ⟨this.1.1, this.1.2, this.2⟩
theorem gz_fc_b : ∀ k, k < 7 → gz_fc k ≤ 720 ∧ 0 < gz_fc k := by decide
theorem gz_fc_m0 : ∀ a, a < 7 → ∀ b, b < 7 → Int32.ofNat (gz_fc a) * Int32.ofNat (gz_fc b) = Int32.ofNat (gz_fc a * gz_fc b) ∧ gz_fc a * gz_fc b ≤ 518400 := by decide +kernel
theorem gz_sj_b {b : Nat → Int32} {N m : Nat} (hN : N ≤ 6) (hm : m < N) (hb : ∀ s, s < 2 ^ N → -504 ≤ (b s).toInt ∧ (b s).toInt ≤ 504) : -2 ^ 62 < gz_sj b N m ∧ gz_sj b N m < 2 ^ 62 := by
  have h := gy_S_b (f := fun s => if s.testBit m then 0 else ((gz_fc (gz_pc s) * gz_fc (N - 1 - gz_pc s) : Nat) : Int) * ((b (s + 2 ^ m)).toInt - (b s).toInt)) (C := 522547200) (2 ^ N) (fun s hs => ?_)
  · have h64 := gz_64 hN
    generalize hK : 2 ^ N = K at h h64
    unfold gz_sj
    rw [hK]
    omega
  · by_cases e : s.testBit m = true
    · rw [if_pos e]; decide
    · rw [if_neg e]
      have e : s.testBit m = false := by simpa using e
      have hg := gz_gr hN hm hs e
      have h1 := hb s hs
      have h2 := hb _ hg.1
      have h3 := (gz_fc_m0 (gz_pc s) (by omega) (N - 1 - gz_pc s) (by omega)).2
      generalize gz_fc (gz_pc s) * gz_fc (N - 1 - gz_pc s) = w at h3
      have a1 := Int.mul_le_mul_of_nonneg_left (show (b (s + 2 ^ m)).toInt - (b s).toInt ≤ 1008 by omega) (show (0 : Int) ≤ (w : Int) by omega)
      have a2 := Int.mul_le_mul_of_nonneg_left (show -1008 ≤ (b (s + 2 ^ m)).toInt - (b s).toInt by omega) (show (0 : Int) ≤ (w : Int) by omega)
      omega
theorem zsub_b {a b : Int32} (ha : -504 ≤ a.toInt ∧ a.toInt ≤ 504) (hb : -504 ≤ b.toInt ∧ b.toInt ≤ 504) : (a - b).toInt = a.toInt - b.toInt := by
  rw [Int32.toInt_sub]
  exact Int.bmod_eq_of_le (by omega) (by omega)
section
variable {V : gw_V} {n W N h0 L bc : Nat} {I : Nat → Nat → Int32} {J : Nat → Nat → Int64}
theorem c_shareAbove (m : Nat) (hm : m < N) (hN : I 6 4 = Int32.ofNat N) (hN6 : N ≤ 6) (hF : ∀ k, k < 7 → I 1 k = Int32.ofNat (gz_fc k)) (hb : ∀ s, s < 2 ^ N → -504 ≤ (I 83 s).toInt ∧ (I 83 s).toInt ≤ 504) : gw_E V 11 (0, [(0, .ref 82), (1, .int (Int32.ofNat m))], [], gS n I J, 0, 0) (fun v w' => v = some (.long (Int64.ofInt (gz_sj (I 83) N m))) ∧ w' = gS n I J) := by
  have h64 := gz_64 hN6
  have hN1 : Int32.ofNat N - 1 = Int32.ofNat (N - 1) := zsubn (b := 1) (by omega)
  have lp : ∀ (r k : Nat), r + k = 2 ^ N → ∀ ab, ab = Int64.ofInt (gy_S (fun s => if s.testBit m then 0 else ((gz_fc (gz_pc s) * gz_fc (N - 1 - gz_pc s) : Nat) : Int) * ((I 83 (s + 2 ^ m)).toInt - (I 83 s).toInt)) k) → gw_E V 11 (16, [(0, .ref 82), (1, .int (Int32.ofNat m)), (2, .long ab), (4, .int (Int32.ofNat (N - 1))), (5, .int (Int32.ofNat k))], [], gS n I J, 0, 0) (fun v w' => v = some (.long (Int64.ofInt (gz_sj (I 83) N m))) ∧ w' = gS n I J) := by
    intro r
    induction r with
    | zero =>
      intro k hk ab hab
      obtain rfl : k = 2 ^ N := by omega
      refine gs_iload (pc := 16) (gd gk_11 10 rfl) rfl ?_
      refine gs_iconst (pc := 18) (gd gk_11 11 rfl) (1) rfl ?_
      refine gs_aload_n (pc := 19) (gd gk_11 12 rfl) rfl ?_
      refine gs_getR (r := 6) (pc := 20) (gd gk_11 13 rfl) rfl rfl rfl (by decide) ?_
      refine gs_getI (pc := 23) (gd gk_11 14 rfl) rfl rfl ?_
      refine gs_as (Int32.ofNat N) (hN) ?_
      refine gs_ishl (pc := 26) (gd gk_11 15 rfl) ?_
      refine gs_as (Int32.ofNat (2 ^ N)) (gz_shl N (by omega)) ?_
      refine gs_icmp_ge (pc := 27) (gd gk_11 16 rfl) (fun c27 => ?_) (fun c27 => ?_)
      · replace c27 : (2 ^ N) ≤ (2 ^ N) := (zle (k := (2 ^ N)) (m := (2 ^ N)) (by omega) (by omega)).mp c27
        refine gs_lload_n (pc := 97) (gd gk_11 56 rfl) rfl ?_
        -- end 1: lreturn ab, pc 98, locals [(0, .ref (82)), (1, .int (Int32.ofNat m)), (2, .long (ab)), (4, .int (Int32.ofNat (N - 1))), (5, .int (Int32.ofNat (2 ^ N)))]
        exact gs_lret (pc := 98) (gd gk_11 57 rfl) rfl (Nat.zero_le _) (Nat.zero_le _) (⟨by rw [hab]; rfl, rfl⟩)
      · replace c27 : ¬ ((2 ^ N) ≤ (2 ^ N)) := fun q9 => c27 ((zle (k := (2 ^ N)) (m := (2 ^ N)) (by omega) (by omega)).mpr q9)
        -- end 2: stop, pc 30, locals [(0, .ref (82)), (1, .int (Int32.ofNat m)), (2, .long (ab)), (4, .int (Int32.ofNat (N - 1))), (5, .int (Int32.ofNat (2 ^ N)))]
        exact absurd (Nat.le_refl _) c27
    | succ r ih =>
      intro k hk ab hab
      have hbit : gz_in (Int32.ofNat k) (Int32.ofNat m) = k.testBit m := gz_bitn k (by omega)
      by_cases e : k.testBit m = true
      · skip
        refine gs_iload (pc := 16) (gd gk_11 10 rfl) rfl ?_
        refine gs_iconst (pc := 18) (gd gk_11 11 rfl) (1) rfl ?_
        refine gs_aload_n (pc := 19) (gd gk_11 12 rfl) rfl ?_
        refine gs_getR (r := 6) (pc := 20) (gd gk_11 13 rfl) rfl rfl rfl (by decide) ?_
        refine gs_getI (pc := 23) (gd gk_11 14 rfl) rfl rfl ?_
        refine gs_as (Int32.ofNat N) (hN) ?_
        refine gs_ishl (pc := 26) (gd gk_11 15 rfl) ?_
        refine gs_as (Int32.ofNat (2 ^ N)) (gz_shl N (by omega)) ?_
        refine gs_icmp_ge (pc := 27) (gd gk_11 16 rfl) (fun c27 => ?_) (fun c27 => ?_)
        · replace c27 : (2 ^ N) ≤ k := (zle (k := (2 ^ N)) (m := k) (by omega) (by omega)).mp c27
          refine gs_lload_n (pc := 97) (gd gk_11 56 rfl) rfl ?_
          -- end 1: lreturn ab, pc 98, locals [(0, .ref (82)), (1, .int (Int32.ofNat m)), (2, .long (ab)), (4, .int (Int32.ofNat (N - 1))), (5, .int (Int32.ofNat k))]
          exact absurd c27 (by omega)
        · replace c27 : ¬ ((2 ^ N) ≤ k) := fun q9 => c27 ((zle (k := (2 ^ N)) (m := k) (by omega) (by omega)).mpr q9)
          refine gs_iload (pc := 30) (gd gk_11 17 rfl) rfl ?_
          refine gs_iload_n (pc := 32) (gd gk_11 18 rfl) rfl ?_
          refine gs_callS (as := [.int (Int32.ofNat k), .int (Int32.ofNat m)]) (pc := 33) (gd gk_11 19 rfl) (by decide) rfl rfl (Nat.le_of_ble_eq_true rfl) gq_11_96 (Nat.le_of_ble_eq_true rfl) (c_in (Int32.ofNat k) (Int32.ofNat m)) (fun r_33 w_33 q_33 => ?_)
          obtain ⟨rfl, rfl⟩ := q_33
          refine gs_if_ne (pc := 36) (gd gk_11 20 rfl) (fun c36 => ?_) (fun c36 => ?_)
          · refine gs_iinc (ls2 := fun v => [(0, .ref (82)), (1, .int (Int32.ofNat m)), (2, .long (ab)), (4, .int (Int32.ofNat (N - 1))), (5, .int (v))]) (pc := 91) (gd gk_11 54 rfl) rfl (by rw [gL_11]; decide) (fun _ => rfl) (1) rfl (fun v5_1 hv5_1 => ?_)
            obtain rfl : v5_1 = Int32.ofNat (k + 1) := hv5_1.trans (by first | rfl | (simp only [Int32.ofNat_add, Int32.ofNat_mul]; rfl) | (simp only [Int32.ofNat_add, Int32.ofNat_mul]))
            refine gs_goto (pc := 94) (gd gk_11 55 rfl) ?_
            -- end 2: stop, pc 16, locals [(0, .ref (82)), (1, .int (Int32.ofNat m)), (2, .long (ab)), (4, .int (Int32.ofNat (N - 1))), (5, .int (Int32.ofNat (k + 1)))]
            refine ih (k + 1) (by omega) ab ?_
            rw [hab]
            show _ = Int64.ofInt (gy_S _ k + if k.testBit m = true then 0 else _)
            rw [if_pos e, Int.add_zero]
          · -- end 3: stop, pc 39, locals [(0, .ref (82)), (1, .int (Int32.ofNat m)), (2, .long (ab)), (4, .int (Int32.ofNat (N - 1))), (5, .int (Int32.ofNat k))]
            rw [hbit, e] at c36
            exact absurd c36 (by decide)
      · have e : k.testBit m = false := by simpa using e
        have hg := gz_gr hN6 hm (show k < 2 ^ N by omega) e
        have hs1 : Int32.ofNat (N - 1) - Int32.ofNat (gz_pc k) = Int32.ofNat (N - 1 - gz_pc k) := zsubn hg.2.1
        have hf := gz_fc_m0 (gz_pc k) (by omega) (N - 1 - gz_pc k) (by omega)
        have f1 : I 1 (gz_pc k) = Int32.ofNat (gz_fc (gz_pc k)) := hF _ (by omega)
        have f2 : I 1 (N - 1 - gz_pc k) = Int32.ofNat (gz_fc (N - 1 - gz_pc k)) := hF _ (by omega)
        refine gs_iload (pc := 16) (gd gk_11 10 rfl) rfl ?_
        refine gs_iconst (pc := 18) (gd gk_11 11 rfl) (1) rfl ?_
        refine gs_aload_n (pc := 19) (gd gk_11 12 rfl) rfl ?_
        refine gs_getR (r := 6) (pc := 20) (gd gk_11 13 rfl) rfl rfl rfl (by decide) ?_
        refine gs_getI (pc := 23) (gd gk_11 14 rfl) rfl rfl ?_
        refine gs_as (Int32.ofNat N) (hN) ?_
        refine gs_ishl (pc := 26) (gd gk_11 15 rfl) ?_
        refine gs_as (Int32.ofNat (2 ^ N)) (gz_shl N (by omega)) ?_
        refine gs_icmp_ge (pc := 27) (gd gk_11 16 rfl) (fun c27 => ?_) (fun c27 => ?_)
        · replace c27 : (2 ^ N) ≤ k := (zle (k := (2 ^ N)) (m := k) (by omega) (by omega)).mp c27
          refine gs_lload_n (pc := 97) (gd gk_11 56 rfl) rfl ?_
          -- end 1: lreturn ab, pc 98, locals [(0, .ref (82)), (1, .int (Int32.ofNat m)), (2, .long (ab)), (4, .int (Int32.ofNat (N - 1))), (5, .int (Int32.ofNat k))]
          exact absurd c27 (by omega)
        · replace c27 : ¬ ((2 ^ N) ≤ k) := fun q9 => c27 ((zle (k := (2 ^ N)) (m := k) (by omega) (by omega)).mpr q9)
          refine gs_iload (pc := 30) (gd gk_11 17 rfl) rfl ?_
          refine gs_iload_n (pc := 32) (gd gk_11 18 rfl) rfl ?_
          refine gs_callS (as := [.int (Int32.ofNat k), .int (Int32.ofNat m)]) (pc := 33) (gd gk_11 19 rfl) (by decide) rfl rfl (Nat.le_of_ble_eq_true rfl) gq_11_96 (Nat.le_of_ble_eq_true rfl) (c_in (Int32.ofNat k) (Int32.ofNat m)) (fun r_33 w_33 q_33 => ?_)
          obtain ⟨rfl, rfl⟩ := q_33
          refine gs_if_ne (pc := 36) (gd gk_11 20 rfl) (fun c36 => ?_) (fun c36 => ?_)
          · refine gs_iinc (ls2 := fun v => [(0, .ref (82)), (1, .int (Int32.ofNat m)), (2, .long (ab)), (4, .int (Int32.ofNat (N - 1))), (5, .int (v))]) (pc := 91) (gd gk_11 54 rfl) rfl (by rw [gL_11]; decide) (fun _ => rfl) (1) rfl (fun v5_1 hv5_1 => ?_)
            obtain rfl : v5_1 = Int32.ofNat (k + 1) := hv5_1.trans (by first | rfl | (simp only [Int32.ofNat_add, Int32.ofNat_mul]; rfl) | (simp only [Int32.ofNat_add, Int32.ofNat_mul]))
            refine gs_goto (pc := 94) (gd gk_11 55 rfl) ?_
            -- end 2: stop, pc 16, locals [(0, .ref (82)), (1, .int (Int32.ofNat m)), (2, .long (ab)), (4, .int (Int32.ofNat (N - 1))), (5, .int (Int32.ofNat (k + 1)))]
            rw [hbit, e] at c36
            exact absurd rfl c36
          · refine gs_iload (pc := 39) (gd gk_11 21 rfl) rfl ?_
            refine gs_callS (as := [.int (Int32.ofNat k)]) (pc := 41) (gd gk_11 22 rfl) (by decide) rfl rfl (Nat.le_of_ble_eq_true rfl) gq_11_163 (Nat.le_of_ble_eq_true rfl) (c_bits k (by omega)) (fun r_41 w_41 q_41 => ?_)
            obtain ⟨rfl, rfl⟩ := q_41
            refine gs_istore (ls2 := fun v => [(0, .ref (82)), (1, .int (Int32.ofNat m)), (2, .long (ab)), (4, .int (Int32.ofNat (N - 1))), (5, .int (Int32.ofNat k)), (6, .int (v))]) (pc := 44) (gd gk_11 23 rfl) (by rw [gL_11]; decide) (fun _ => rfl) (fun v6_1 hv6_1 => ?_)
            obtain rfl : v6_1 = Int32.ofNat (gz_pc k) := hv6_1.trans (by first | rfl | (simp only [Int32.ofNat_add, Int32.ofNat_mul]; rfl) | (simp only [Int32.ofNat_add, Int32.ofNat_mul]))
            refine gs_gets (pc := 46) (gd gk_11 24 rfl) ?_
            refine gs_iload (pc := 49) (gd gk_11 25 rfl) rfl ?_
            refine gs_ialoadK ((gz_pc k)) (7) (pc := 51) (gd gk_11 26 rfl) (Or.inr ⟨rfl, by decide⟩) rfl (by decide) (by first | rfl | (simp only [Int32.ofNat_add, Int32.ofNat_mul]; rfl) | (simp only [Int32.ofNat_add, Int32.ofNat_mul])) (by omega) ?_
            refine gs_gets (pc := 52) (gd gk_11 27 rfl) ?_
            refine gs_iload (pc := 55) (gd gk_11 28 rfl) rfl ?_
            refine gs_iload (pc := 57) (gd gk_11 29 rfl) rfl ?_
            refine gs_isub (pc := 59) (gd gk_11 30 rfl) ?_
            refine gs_as (Int32.ofNat (N - 1 - gz_pc k)) (hs1) ?_
            refine gs_ialoadK ((N - 1 - gz_pc k)) (7) (pc := 60) (gd gk_11 31 rfl) (Or.inr ⟨rfl, by decide⟩) rfl (by decide) (by first | rfl | (simp only [Int32.ofNat_add, Int32.ofNat_mul]; rfl) | (simp only [Int32.ofNat_add, Int32.ofNat_mul])) (by omega) ?_
            refine gs_imul (pc := 61) (gd gk_11 32 rfl) ?_
            refine gs_istore (ls2 := fun v => [(0, .ref (82)), (1, .int (Int32.ofNat m)), (2, .long (ab)), (4, .int (Int32.ofNat (N - 1))), (5, .int (Int32.ofNat k)), (6, .int (Int32.ofNat (gz_pc k))), (7, .int (v))]) (pc := 62) (gd gk_11 33 rfl) (by rw [gL_11]; decide) (fun _ => rfl) (fun v7_1 hv7_1 => ?_)
            refine gs_lload_n (pc := 64) (gd gk_11 34 rfl) rfl ?_
            refine gs_iload (pc := 65) (gd gk_11 35 rfl) rfl ?_
            refine gs_i2l (pc := 67) (gd gk_11 36 rfl) ?_
            refine gs_aload_n (pc := 68) (gd gk_11 37 rfl) rfl ?_
            refine gs_getR (r := 83) (pc := 69) (gd gk_11 38 rfl) rfl rfl rfl (by decide) ?_
            refine gs_iload (pc := 72) (gd gk_11 39 rfl) rfl ?_
            refine gs_iconst (pc := 74) (gd gk_11 40 rfl) (1) rfl ?_
            refine gs_iload_n (pc := 75) (gd gk_11 41 rfl) rfl ?_
            refine gs_ishl (pc := 76) (gd gk_11 42 rfl) ?_
            refine gs_ior (pc := 77) (gd gk_11 43 rfl) ?_
            refine gs_as (Int32.ofNat (k + 2 ^ m)) (hg.2.2) ?_
            refine gs_ialoadK ((k + 2 ^ m)) (64) (pc := 78) (gd gk_11 44 rfl) (Or.inl rfl) rfl (by decide) (by first | rfl | (simp only [Int32.ofNat_add, Int32.ofNat_mul]; rfl) | (simp only [Int32.ofNat_add, Int32.ofNat_mul])) (by omega) ?_
            refine gs_aload_n (pc := 79) (gd gk_11 45 rfl) rfl ?_
            refine gs_getR (r := 83) (pc := 80) (gd gk_11 46 rfl) rfl rfl rfl (by decide) ?_
            refine gs_iload (pc := 83) (gd gk_11 47 rfl) rfl ?_
            refine gs_ialoadK (k) (64) (pc := 85) (gd gk_11 48 rfl) (Or.inl rfl) rfl (by decide) (by first | rfl | (simp only [Int32.ofNat_add, Int32.ofNat_mul]; rfl) | (simp only [Int32.ofNat_add, Int32.ofNat_mul])) (by omega) ?_
            refine gs_isub (pc := 86) (gd gk_11 49 rfl) ?_
            refine gs_i2l (pc := 87) (gd gk_11 50 rfl) ?_
            refine gs_lmul (pc := 88) (gd gk_11 51 rfl) ?_
            refine gs_ladd (pc := 89) (gd gk_11 52 rfl) ?_
            refine gs_lstore_n (ls2 := fun v => [(0, .ref (82)), (1, .int (Int32.ofNat m)), (2, .long (v)), (4, .int (Int32.ofNat (N - 1))), (5, .int (Int32.ofNat k)), (6, .int (Int32.ofNat (gz_pc k))), (7, .int (v7_1))]) (pc := 90) (gd gk_11 53 rfl) (by rw [gL_11]; decide) (fun _ => rfl) (fun u2_1 hu2_1 => ?_)
            refine gs_iinc (ls2 := fun v => [(0, .ref (82)), (1, .int (Int32.ofNat m)), (2, .long (u2_1)), (4, .int (Int32.ofNat (N - 1))), (5, .int (v)), (6, .int (Int32.ofNat (gz_pc k))), (7, .int (v7_1))]) (pc := 91) (gd gk_11 54 rfl) rfl (by rw [gL_11]; decide) (fun _ => rfl) (1) rfl (fun v5_2 hv5_2 => ?_)
            obtain rfl : v5_2 = Int32.ofNat (k + 1) := hv5_2.trans (by first | rfl | (simp only [Int32.ofNat_add, Int32.ofNat_mul]; rfl) | (simp only [Int32.ofNat_add, Int32.ofNat_mul]))
            refine gs_goto (pc := 94) (gd gk_11 55 rfl) ?_
            -- end 3: stop, pc 16, locals [(0, .ref (82)), (1, .int (Int32.ofNat m)), (2, .long (u2_1)), (4, .int (Int32.ofNat (N - 1))), (5, .int (Int32.ofNat (k + 1))), (6, .int (Int32.ofNat (gz_pc k))), (7, .int (v7_1))]
            refine gs_drop [0, 1, 2, 3, 4] rfl (ih (k + 1) (by omega) _ ?_)
            rw [hu2_1, hab, hv7_1, f1, f2, hf.1, z64 (by omega), ← Int64.ofInt_int32ToInt, zsub_b (hb _ hg.1) (hb k (by omega)), ← Int64.ofInt_mul, ← Int64.ofInt_add]
            show _ = Int64.ofInt (gy_S _ k + if k.testBit m = true then 0 else _)
            rw [if_neg (by rw [e]; decide)]
  refine gs_lconst (pc := 0) (gd gk_11 0 rfl) (0) rfl ?_
  refine gs_lstore_n (ls2 := fun v => [(0, .ref (82)), (1, .int (Int32.ofNat m)), (2, .long (v))]) (pc := 1) (gd gk_11 1 rfl) (by rw [gL_11]; decide) (fun _ => rfl) (fun u2_1 hu2_1 => ?_)
  refine gs_aload_n (pc := 2) (gd gk_11 2 rfl) rfl ?_
  refine gs_getR (r := 6) (pc := 3) (gd gk_11 3 rfl) rfl rfl rfl (by decide) ?_
  refine gs_getI (pc := 6) (gd gk_11 4 rfl) rfl rfl ?_
  refine gs_as (Int32.ofNat N) (hN) ?_
  refine gs_iconst (pc := 9) (gd gk_11 5 rfl) (1) rfl ?_
  refine gs_isub (pc := 10) (gd gk_11 6 rfl) ?_
  refine gs_as (Int32.ofNat (N - 1)) (hN1) ?_
  refine gs_istore (ls2 := fun v => [(0, .ref (82)), (1, .int (Int32.ofNat m)), (2, .long (u2_1)), (4, .int (v))]) (pc := 11) (gd gk_11 7 rfl) (by rw [gL_11]; decide) (fun _ => rfl) (fun v4_1 hv4_1 => ?_)
  obtain rfl : v4_1 = Int32.ofNat (N - 1) := hv4_1.trans (by first | rfl | (simp only [Int32.ofNat_add, Int32.ofNat_mul]; rfl) | (simp only [Int32.ofNat_add, Int32.ofNat_mul]))
  refine gs_iconst (pc := 13) (gd gk_11 8 rfl) (0) rfl ?_
  refine gs_istore (ls2 := fun v => [(0, .ref (82)), (1, .int (Int32.ofNat m)), (2, .long (u2_1)), (4, .int (Int32.ofNat (N - 1))), (5, .int (v))]) (pc := 14) (gd gk_11 9 rfl) (by rw [gL_11]; decide) (fun _ => rfl) (fun v5_1 hv5_1 => ?_)
  obtain rfl : v5_1 = Int32.ofNat 0 := hv5_1.trans (by first | rfl | (simp only [Int32.ofNat_add, Int32.ofNat_mul]; rfl) | (simp only [Int32.ofNat_add, Int32.ofNat_mul]))
  -- end 1: stop, pc 16, locals [(0, .ref (82)), (1, .int (Int32.ofNat m)), (2, .long (u2_1)), (4, .int (Int32.ofNat (N - 1))), (5, .int (Int32.ofNat 0))]
  exact lp (2 ^ N) 0 (by omega) _ hu2_1
abbrev cq_sh (n : Nat) (I : Nat → Nat → Int32) (J : Nat → Nat → Int64) (N h0 L bc : Nat) (x : Int32) (up : Bool) : Option Value → gw_W → Prop := fun v w' => ∃ b, v = some (.int (gz_sa b N x up)) ∧ (gz_lt x N = true → ∀ s, s < 2 ^ N → gq_mx (gq_vs (gz_S I) N h0 L bc (I 12 1) (I 13) s) h0 L (b s)) ∧ ∃ I2, w' = gS n I2 J ∧ gq_qf I I2
theorem gq_vs_b {σ : Nat → Nat → Int32} {W N h0 L bc : Nat} {ch : Int32} {s0 : Nat → Int32} {s : Nat} {y : Int32} (hok : gq_ok σ W N) (hL : L ≤ 8) (h : gq_mx (gq_vs σ N h0 L bc ch s0 s) h0 L y) : -504 ≤ y.toInt ∧ y.toInt ≤ 504 := by
  obtain ⟨⟨p, -, rfl⟩, -⟩ := h
  have := gq_cm_b hok (fun q => gq_wd σ 0 (h0 + q)) (fun q => gz_in (Int32.ofNat p) (Int32.ofNat (h0 + q))) bc ch s0 (fun m => s.testBit m) (g := L) hL
  show -504 ≤ (gq_cm _ _ _ _ _ _ _ _ _).toInt ∧ (gq_cm _ _ _ _ _ _ _ _ _).toInt ≤ 504
  omega
theorem c_share (x : Int32) (up : Bool) (hF : ∀ k, k < 7 → I 1 k = Int32.ofNat (gz_fc k)) (hn : gq_now I W N h0 L bc) : gw_E V 78 (0, [(0, .ref 3), (1, .int x), (2, .int (gz_b up))], [], gS n I J, 0, 0) (cq_sh n I J N h0 L bc x up) := by
  obtain ⟨hok, hh, hW, hbc, hb9, h78, h79, h69⟩ := id hn
  have hW8 : W ≤ 8 := hok.2.1
  have hN6 : N ≤ 6 := hok.2.2.2.1
  have hN : I 6 4 = Int32.ofNat N := hok.2.2.1
  have hfb := gz_fc_b N (by omega)
  by_cases hr : gz_lt x N = true
  · obtain ⟨m, hm, rfl⟩ := gz_lt_nat hr (by omega)
    refine gs_aload_n (pc := 0) (gd gk_78 0 rfl) rfl ?_
    refine gs_getR (r := 6) (pc := 1) (gd gk_78 1 rfl) rfl rfl rfl (by decide) ?_
    refine gs_iload_n (pc := 4) (gd gk_78 2 rfl) rfl ?_
    refine gs_callV (as := [.int (Int32.ofNat m)]) (pc := 5) (gd gk_78 3 rfl) (by decide) rfl (by decide) rfl rfl (Nat.le_of_ble_eq_true rfl) gq_78_34 (Nat.le_of_ble_eq_true rfl) (c_hasNose _ hN) (fun r_5 w_5 q_5 => ?_)
    obtain ⟨rfl, rfl⟩ := q_5
    refine gs_if_ne (pc := 8) (gd gk_78 4 rfl) (fun c8 => ?_) (fun c8 => ?_)
    · refine gs_aload_n (pc := 14) (gd gk_78 7 rfl) rfl ?_
      refine gs_getR (r := 57) (pc := 15) (gd gk_78 8 rfl) rfl rfl rfl (by decide) ?_
      refine gs_aload_n (pc := 18) (gd gk_78 9 rfl) rfl ?_
      refine gs_getR (r := 12) (pc := 19) (gd gk_78 10 rfl) rfl rfl rfl (by decide) ?_
      refine gs_aload_n (pc := 22) (gd gk_78 11 rfl) rfl ?_
      refine gs_getR (r := 6) (pc := 23) (gd gk_78 12 rfl) rfl rfl rfl (by decide) ?_
      refine gs_getI (pc := 26) (gd gk_78 13 rfl) rfl rfl ?_
      refine gs_as (Int32.ofNat bc) (hbc) ?_
      refine gs_callV (as := [.ref (12), .int (Int32.ofNat bc)]) (pc := 29) (gd gk_78 14 rfl) (by decide) rfl (by decide) rfl rfl (Nat.le_of_ble_eq_true rfl) gq_78_50 (Nat.le_of_ble_eq_true rfl) (c_start_now bc h0 L hok hh hW hb9 h78 h79 h69) (fun r_29 w_29 q_29 => ?_)
      obtain ⟨rfl, I_s, rfl, s1, s2, s3, s4⟩ := q_29
      refine gs_aload_n (pc := 32) (gd gk_78 15 rfl) rfl ?_
      refine gs_getR (r := 82) (pc := 33) (gd gk_78 16 rfl) rfl rfl rfl (by decide) ?_
      refine gs_callV (as := []) (pc := 36) (gd gk_78 17 rfl) (by decide) rfl (by decide) rfl rfl (Nat.le_of_ble_eq_true rfl) gq_78_9 (Nat.le_of_ble_eq_true rfl) (c_weigh s2) (fun r_36 w_36 q_36 => ?_)
      obtain ⟨rfl, I_w, rfl, w1, w2⟩ := q_36
      have wq := gq_qf_tr (gq_qf_s s1) w1
      have hNw : I_w 6 4 = Int32.ofNat N := by rw [wq.1 6 (by omega) (by omega) (by omega)]; exact hN
      have hFw : ∀ k, k < 7 → I_w 1 k = Int32.ofNat (gz_fc k) := fun k hk => by rw [wq.1 1 (by omega) (by omega) (by omega)]; exact hF k hk
      have w3 : ∀ s, s < 2 ^ N → gq_mx (gq_vs (gz_S I) N h0 L bc (I 12 1) (I 13) s) h0 L (I_w 83 s) := fun s hs => by
        have := w2 s hs
        rw [gq_qf_S (gq_qf_s s1), s3] at this
        unfold gq_vs at this ⊢
        rw [gq_val_c s4 (gq_ok_n hok)] at this
        exact this
      have wb : ∀ s, s < 2 ^ N → -504 ≤ (I_w 83 s).toInt ∧ (I_w 83 s).toInt ≤ 504 := fun s hs => gq_vs_b hok (by omega) (w3 s hs)
      have hsb := gz_sj_b hN6 hm wb
      refine gs_aload_n (pc := 39) (gd gk_78 18 rfl) rfl ?_
      refine gs_getR (r := 82) (pc := 40) (gd gk_78 19 rfl) rfl rfl rfl (by decide) ?_
      refine gs_iload_n (pc := 43) (gd gk_78 20 rfl) rfl ?_
      refine gs_callV (as := [.int (Int32.ofNat m)]) (pc := 44) (gd gk_78 21 rfl) (by decide) rfl (by decide) rfl rfl (Nat.le_of_ble_eq_true rfl) gq_78_11 (Nat.le_of_ble_eq_true rfl) (c_shareAbove m hm hNw hN6 hFw wb) (fun r_44 w_44 q_44 => ?_)
      obtain ⟨rfl, rfl⟩ := q_44
      refine gs_gets (pc := 47) (gd gk_78 22 rfl) ?_
      refine gs_aload_n (pc := 50) (gd gk_78 23 rfl) rfl ?_
      refine gs_getR (r := 6) (pc := 51) (gd gk_78 24 rfl) rfl rfl rfl (by decide) ?_
      refine gs_getI (pc := 54) (gd gk_78 25 rfl) rfl rfl ?_
      refine gs_as (Int32.ofNat N) (hNw) ?_
      refine gs_ialoadK (N) (7) (pc := 57) (gd gk_78 26 rfl) (Or.inr ⟨rfl, by decide⟩) rfl (by decide) (by first | rfl | (simp only [Int32.ofNat_add, Int32.ofNat_mul]; rfl) | (simp only [Int32.ofNat_add, Int32.ofNat_mul])) (by omega) ?_
      refine gs_as (Int32.ofNat (gz_fc N)) (hFw N (by omega)) ?_
      refine gs_i2l (pc := 58) (gd gk_78 27 rfl) ?_
      refine gs_iload_n (pc := 59) (gd gk_78 28 rfl) rfl ?_
      refine gs_callS (as := [.long ((Int64.ofInt (gz_sj (I_w 83) N m))), .long ((Int32.ofNat (gz_fc N) : Int32).toInt64), .int (gz_b up)]) (pc := 60) (gd gk_78 29 rfl) (by decide) rfl rfl (Nat.le_of_ble_eq_true rfl) gq_78_104 (Nat.le_of_ble_eq_true rfl) ((by rw [z64 (by omega), Int64.ofInt_eq_ofNat]; exact c_told _ (gz_fc N) up hsb.1 hsb.2 hfb.2 (by omega))) (fun r_60 w_60 q_60 => ?_)
      obtain ⟨rfl, rfl⟩ := q_60
      refine gs_l2i (pc := 63) (gd gk_78 30 rfl) ?_
      -- end 1: ireturn ((Int64.ofInt (gz_fr (gz_sj (I_w 83) N m) (gz_fc N) up))).toInt32, pc 64, locals [(0, .ref (3)), (1, .int (Int32.ofNat m)), (2, .int (gz_b up))]
      exact gs_iret (pc := 64) (gd gk_78 31 rfl) rfl (rfl) (Nat.zero_le _) (Nat.zero_le _) (⟨I_w 83, by unfold gz_sa; rw [if_pos hr, znn (by omega)], fun _ => w3, I_w, rfl, wq⟩)
    · refine gs_ldc (pc := 11) (gd gk_78 5 rfl) (-1000001) rfl ?_
      -- end 2: ireturn (-1000001), pc 13, locals [(0, .ref (3)), (1, .int (Int32.ofNat m)), (2, .int (gz_b up))]
      rw [hr] at c8
      exact absurd c8 (by decide)
  · skip
    refine gs_aload_n (pc := 0) (gd gk_78 0 rfl) rfl ?_
    refine gs_getR (r := 6) (pc := 1) (gd gk_78 1 rfl) rfl rfl rfl (by decide) ?_
    refine gs_iload_n (pc := 4) (gd gk_78 2 rfl) rfl ?_
    refine gs_callV (as := [.int (x)]) (pc := 5) (gd gk_78 3 rfl) (by decide) rfl (by decide) rfl rfl (Nat.le_of_ble_eq_true rfl) gq_78_34 (Nat.le_of_ble_eq_true rfl) (c_hasNose _ hN) (fun r_5 w_5 q_5 => ?_)
    obtain ⟨rfl, rfl⟩ := q_5
    refine gs_if_ne (pc := 8) (gd gk_78 4 rfl) (fun c8 => ?_) (fun c8 => ?_)
    · -- end 1: stop, pc 14, locals [(0, .ref (3)), (1, .int (x)), (2, .int (gz_b up))]
      exact absurd (gz_b_ne.mp c8) hr
    · refine gs_ldc (pc := 11) (gd gk_78 5 rfl) (-1000001) rfl ?_
      -- end 2: ireturn (-1000001), pc 13, locals [(0, .ref (3)), (1, .int (x)), (2, .int (gz_b up))]
      exact gs_iret (pc := 13) (gd gk_78 6 rfl) rfl (rfl) (Nat.zero_le _) (Nat.zero_le _) (⟨fun _ => 0, by unfold gz_sa; rw [if_neg hr], fun q => absurd q hr, I, rfl, ⟨fun _ _ _ _ => rfl, rfl, rfl, rfl⟩⟩)
end
