/-! ===== shares: what comes by a plan from a group of noses; the class's addUp ===== -/
def gq_gp (f : Nat → Int32) (so : Nat → Bool) : Nat → Int32
  | 0 => 0
  | k + 1 => gq_gp f so k + (if so k then f k else 0)
theorem gq_gp_add (f g : Nat → Int32) (so : Nat → Bool) : ∀ k, gq_gp (fun m => f m + g m) so k = gq_gp f so k + gq_gp g so k
  | 0 => by show (0 : Int32) = 0 + 0; decide
  | k + 1 => by
    show gq_gp _ so k + _ = (gq_gp f so k + _) + (gq_gp g so k + _)
    rw [gq_gp_add f g so k]
    cases so k <;> simp <;> grind
theorem gq_gp_0 (so : Nat → Bool) : ∀ k, gq_gp (fun _ => 0) so k = 0
  | 0 => rfl
  | k + 1 => by show gq_gp _ so k + _ = _; rw [gq_gp_0 so k]; cases so k <;> rfl
theorem gq_gp_c {f g : Nat → Int32} {so to : Nat → Bool} : ∀ k, (∀ m, m < k → f m = g m) → (∀ m, m < k → so m = to m) → gq_gp f so k = gq_gp g to k
  | 0, _, _ => rfl
  | k + 1, h, h2 => by
    show gq_gp f so k + _ = gq_gp g to k + _
    rw [gq_gp_c k (fun m hm => h m (by omega)) (fun m hm => h2 m (by omega)), h k (by omega), h2 k (by omega)]
theorem gq_hc_gp {σ : Nat → Nat → Int32} {sm : Nat → Int32} {bk ea : Bool} {so : Nat → Bool} : ∀ k, gq_hc σ sm bk ea so k = (if bk then -σ 0 2 else 0) + gq_gp (fun m => gq_due σ m (gq_has σ sm m) ea) so k
  | 0 => by unfold gq_hc; exact (Int32.add_zero _).symm
  | k + 1 => by
    unfold gq_hc
    rw [gq_hc_gp k, Int32.add_assoc]; rfl
theorem gq_cm_gp {σ : Nat → Nat → Int32} {wd : Nat → Int32} {pl : Nat → Bool} {bc : Nat} {ch : Int32} {s0 : Nat → Int32} {so : Nat → Bool} {N : Nat} : ∀ g, gq_cm σ wd pl bc ch s0 so N g = -σ 0 2 * gy_k pl g + gq_gp (fun m => gq_pd σ wd pl bc ch s0 m g) so N
  | 0 => by
    show (0 : Int32) = -σ 0 2 * 0 + gq_gp (fun _ => 0) so N
    rw [gq_gp_0]; grind
  | g + 1 => by
    have ih := gq_cm_gp (σ := σ) (wd := wd) (pl := pl) (bc := bc) (ch := ch) (s0 := s0) (so := so) (N := N) g
    have e : gq_gp (fun m => gq_pd σ wd pl bc ch s0 m (g + 1)) so N = gq_gp (fun m => gq_pd σ wd pl bc ch s0 m g) so N + gq_gp (fun m => gq_due σ m (gq_has σ (gq_sq σ wd pl bc ch s0 (g + 1)) m) (decide (wd g = 1))) so N := gq_gp_add _ _ so N
    rw [e]
    show gq_cm σ wd pl bc ch s0 so N g + gq_hc _ _ _ _ so N = -σ 0 2 * (gy_k pl g + _) + _
    rw [ih, gq_hc_gp]
    cases pl g <;> simp <;> grind
theorem gy_k_pc0 : ∀ h0, h0 < 9 → ∀ L, L < 9 → h0 + L < 9 → ∀ p, p < 2 ^ (h0 + L) → (!decide (p % 2 ^ h0 = 0) || decide (gy_k (fun q => gz_in (Int32.ofNat p) (Int32.ofNat (h0 + q))) L = Int32.ofNat (gz_pc p))) = true := by decide +kernel
theorem gz_or2 : ∀ k, k < 6 → ∀ g, g < 2 ^ k → Int32.ofNat (2 ^ k) ||| Int32.ofNat g = Int32.ofNat (2 ^ k + g) := by decide +kernel
theorem gz_64 {N : Nat} (h : N ≤ 6) : 2 ^ N ≤ 64 := Nat.le_trans (Nat.pow_le_pow_right (by omega) h) (by decide)
section
variable {V : gw_V} {n W N h0 L bc : Nat} {I : Nat → Nat → Int32} {J : Nat → Nat → Int64}
abbrev cq_au (n : Nat) (I : Nat → Nat → Int32) (J : Nat → Nat → Int64) (N L p : Nat) : Option Value → gw_W → Prop := fun v w' => v = none ∧ ∃ I2, w' = gS n I2 J ∧ (∀ s, s < 2 ^ N → I2 84 s = -I 6 2 * Int32.ofNat (gz_pc p) + gq_gp (fun m => I (69 + L) m) (fun m => s.testBit m) N) ∧ ∀ a, a ≠ 84 → I2 a = I a
theorem c_addUp (p : Nat) (hp : p < 256) (hN : I 6 4 = Int32.ofNat N) (hN6 : N ≤ 6) (hL : I 57 12 = Int32.ofNat L) (hL8 : L ≤ 8) : gw_E V 10 (0, [(0, .ref 82), (1, .int (Int32.ofNat p))], [], gS n I J, 0, 0) (cq_au n I J N L p) := by
  generalize hc : -I 6 2 * Int32.ofNat (gz_pc p) = c0
  generalize hf : (fun m => I (69 + L) m) = f
  have lp : ∀ (m k : Nat), m + k = N → ∀ I1, (∀ s, s < 2 ^ k → I1 84 s = c0 + gq_gp f (fun m => s.testBit m) k) → (∀ a, a ≠ 84 → I1 a = I a) → gw_E V 10 (21, [(0, .ref 82), (1, .int (Int32.ofNat p)), (2, .int (Int32.ofNat k))], [], gS n I1 J, 0, 0) (cq_au n I J N L p) := by
    intro m
    induction m with
    | zero =>
      intro k hk I1 g1 g2
      obtain rfl : k = N := by omega
      have hN1 : I1 6 4 = Int32.ofNat k := by rw [g2 6 (by omega)]; exact hN
      refine gs_iload_n (pc := 21) (gd gk_10 13 rfl) rfl ?_
      refine gs_aload_n (pc := 22) (gd gk_10 14 rfl) rfl ?_
      refine gs_getR (r := 6) (pc := 23) (gd gk_10 15 rfl) rfl rfl rfl (by decide) ?_
      refine gs_getI (pc := 26) (gd gk_10 16 rfl) rfl rfl ?_
      refine gs_as (Int32.ofNat k) (hN1) ?_
      refine gs_icmp_ge (pc := 29) (gd gk_10 17 rfl) (fun c29 => ?_) (fun c29 => ?_)
      · replace c29 : k ≤ k := (zle (k := k) (m := k) (by omega) (by omega)).mp c29
        -- end 1: return, pc 82, locals [(0, .ref (82)), (1, .int (Int32.ofNat p)), (2, .int (Int32.ofNat k))]
        exact gs_ret (pc := 82) (gd gk_10 46 rfl) rfl (Nat.zero_le _) (Nat.zero_le _) (⟨rfl, I1, rfl, by rw [hc, hf]; exact g1, g2⟩)
      · replace c29 : ¬ (k ≤ k) := fun q9 => c29 ((zle (k := k) (m := k) (by omega) (by omega)).mpr q9)
        -- end 2: stop, pc 32, locals [(0, .ref (82)), (1, .int (Int32.ofNat p)), (2, .int (Int32.ofNat k))]
        exact absurd (Nat.le_refl _) c29
    | succ m ih =>
      intro k hk I1 g1 g2
      have hN1 : I1 6 4 = Int32.ofNat N := by rw [g2 6 (by omega)]; exact hN
      have hk5 : k < 6 := by omega
      have h2k : 2 ^ k + 2 ^ k ≤ 64 := by
        have := Nat.pow_le_pow_right (show 0 < 2 by omega) (show k + 1 ≤ 6 by omega)
        rw [Nat.pow_succ] at this
        omega
      have inner : ∀ (r g : Nat), r + g = 2 ^ k → ∀ I2, (∀ s, s < 2 ^ k + g → I2 84 s = c0 + gq_gp f (fun m => s.testBit m) (k + 1)) → (∀ s, s < 2 ^ k → I2 84 s = c0 + gq_gp f (fun m => s.testBit m) k) → (∀ a, a ≠ 84 → I2 a = I a) → gw_E V 10 (39, [(0, .ref 82), (1, .int (Int32.ofNat p)), (2, .int (Int32.ofNat k)), (3, .int (Int32.ofNat (2 ^ k))), (4, .int (Int32.ofNat g))], [], gS n I2 J, 0, 0) (cq_au n I J N L p) := by
        intro r
        induction r with
        | zero =>
          intro g hg I2 a1 a2 a3
          obtain rfl : g = 2 ^ k := by omega
          refine gs_iload (pc := 39) (gd gk_10 24 rfl) rfl ?_
          refine gs_iload_n (pc := 41) (gd gk_10 25 rfl) rfl ?_
          refine gs_icmp_ge (pc := 42) (gd gk_10 26 rfl) (fun c42 => ?_) (fun c42 => ?_)
          · replace c42 : (2 ^ k) ≤ (2 ^ k) := (zle (k := (2 ^ k)) (m := (2 ^ k)) (by omega) (by omega)).mp c42
            refine gs_iinc (ls2 := fun v => [(0, .ref (82)), (1, .int (Int32.ofNat p)), (2, .int (v)), (3, .int (Int32.ofNat (2 ^ k))), (4, .int (Int32.ofNat (2 ^ k)))]) (pc := 76) (gd gk_10 44 rfl) rfl (by rw [gL_10]; decide) (fun _ => rfl) (1) rfl (fun v2_1 hv2_1 => ?_)
            obtain rfl : v2_1 = Int32.ofNat (k + 1) := hv2_1.trans (by first | rfl | (simp only [Int32.ofNat_add, Int32.ofNat_mul]; rfl) | (simp only [Int32.ofNat_add, Int32.ofNat_mul]))
            refine gs_goto (pc := 79) (gd gk_10 45 rfl) ?_
            -- end 1: stop, pc 21, locals [(0, .ref (82)), (1, .int (Int32.ofNat p)), (2, .int (Int32.ofNat (k + 1))), (3, .int (Int32.ofNat (2 ^ k))), (4, .int (Int32.ofNat (2 ^ k)))]
            exact gs_drop [0, 1, 2] rfl (ih (k + 1) (by omega) I2 (fun s hs => a1 s (by rw [Nat.pow_succ] at hs; omega)) a3)
          · replace c42 : ¬ ((2 ^ k) ≤ (2 ^ k)) := fun q9 => c42 ((zle (k := (2 ^ k)) (m := (2 ^ k)) (by omega) (by omega)).mpr q9)
            -- end 2: stop, pc 45, locals [(0, .ref (82)), (1, .int (Int32.ofNat p)), (2, .int (Int32.ofNat k)), (3, .int (Int32.ofNat (2 ^ k))), (4, .int (Int32.ofNat (2 ^ k)))]
            exact absurd (Nat.le_refl _) c42
        | succ r ihr =>
          intro g hg I2 a1 a2 a3
          have hL2 : I2 57 12 = Int32.ofNat L := by rw [a3 57 (by omega)]; exact hL
          have hor := gz_or2 k hk5 g (by omega)
          have h69 : I2 (69 + L) k = f k := by rw [a3 _ (by omega), ← hf]
          have hbit : ∀ j, j ≤ k → (2 ^ k + g).testBit j = if j = k then true else g.testBit j := by
            intro j hj
            by_cases q9 : j = k
            · rw [if_pos q9, q9, Nat.testBit_two_pow_add_eq, Nat.testBit_lt_two_pow (by omega)]; rfl
            · rw [if_neg q9, Nat.testBit_two_pow_add_gt (by omega)]
          refine gs_iload (pc := 39) (gd gk_10 24 rfl) rfl ?_
          refine gs_iload_n (pc := 41) (gd gk_10 25 rfl) rfl ?_
          refine gs_icmp_ge (pc := 42) (gd gk_10 26 rfl) (fun c42 => ?_) (fun c42 => ?_)
          · replace c42 : (2 ^ k) ≤ g := (zle (k := (2 ^ k)) (m := g) (by omega) (by omega)).mp c42
            -- end 1: stop, pc 76, locals [(0, .ref (82)), (1, .int (Int32.ofNat p)), (2, .int (Int32.ofNat k)), (3, .int (Int32.ofNat (2 ^ k))), (4, .int (Int32.ofNat g))]
            exact absurd c42 (by omega)
          · replace c42 : ¬ ((2 ^ k) ≤ g) := fun q9 => c42 ((zle (k := (2 ^ k)) (m := g) (by omega) (by omega)).mpr q9)
            refine gs_aload_n (pc := 45) (gd gk_10 27 rfl) rfl ?_
            refine gs_getR (r := 84) (pc := 46) (gd gk_10 28 rfl) rfl rfl rfl (by decide) ?_
            refine gs_iload_n (pc := 49) (gd gk_10 29 rfl) rfl ?_
            refine gs_iload (pc := 50) (gd gk_10 30 rfl) rfl ?_
            refine gs_ior (pc := 52) (gd gk_10 31 rfl) ?_
            refine gs_as (Int32.ofNat (2 ^ k + g)) (hor) ?_
            refine gs_aload_n (pc := 53) (gd gk_10 32 rfl) rfl ?_
            refine gs_getR (r := 84) (pc := 54) (gd gk_10 33 rfl) rfl rfl rfl (by decide) ?_
            refine gs_iload (pc := 57) (gd gk_10 34 rfl) rfl ?_
            refine gs_ialoadK (g) (64) (pc := 59) (gd gk_10 35 rfl) (Or.inl rfl) rfl (by decide) (by first | rfl | (simp only [Int32.ofNat_add, Int32.ofNat_mul]; rfl) | (simp only [Int32.ofNat_add, Int32.ofNat_mul])) (by omega) ?_
            refine gs_aload_n (pc := 60) (gd gk_10 36 rfl) rfl ?_
            refine gs_getR (r := 57) (pc := 61) (gd gk_10 37 rfl) rfl rfl rfl (by decide) ?_
            refine gs_iload_n (pc := 64) (gd gk_10 38 rfl) rfl ?_
            refine gs_callV (as := [.int (Int32.ofNat k)]) (pc := 65) (gd gk_10 39 rfl) (by decide) rfl (by decide) rfl rfl (Nat.le_of_ble_eq_true rfl) gq_10_60 (Nat.le_of_ble_eq_true rfl) (c_paid k (by omega) hL2 hL8) (fun r_65 w_65 q_65 => ?_)
            obtain ⟨rfl, rfl⟩ := q_65
            rw [h69]
            refine gs_iadd (pc := 68) (gd gk_10 40 rfl) ?_
            refine gs_iastoreK ((2 ^ k + g)) (64) gs_sl (pc := 69) (gd gk_10 41 rfl) rfl rfl (by decide) (by first | rfl | (simp only [Int32.ofNat_add, Int32.ofNat_mul]; rfl) | (simp only [Int32.ofNat_add, Int32.ofNat_mul])) (by omega) (fun I_1 hI_1 => ?_)
            refine gs_iinc (ls2 := fun v => [(0, .ref (82)), (1, .int (Int32.ofNat p)), (2, .int (Int32.ofNat k)), (3, .int (Int32.ofNat (2 ^ k))), (4, .int (v))]) (pc := 70) (gd gk_10 42 rfl) rfl (by rw [gL_10]; decide) (fun _ => rfl) (1) rfl (fun v4_1 hv4_1 => ?_)
            obtain rfl : v4_1 = Int32.ofNat (g + 1) := hv4_1.trans (by first | rfl | (simp only [Int32.ofNat_add, Int32.ofNat_mul]; rfl) | (simp only [Int32.ofNat_add, Int32.ofNat_mul]))
            refine gs_goto (pc := 73) (gd gk_10 43 rfl) ?_
            -- end 2: stop, pc 39, locals [(0, .ref (82)), (1, .int (Int32.ofNat p)), (2, .int (Int32.ofNat k)), (3, .int (Int32.ofNat (2 ^ k))), (4, .int (Int32.ofNat (g + 1)))]
            have o : ∀ s, s ≠ 2 ^ k + g → I_1 84 s = I2 84 s := fun s hs => by rw [hI_1, gw_u_s]; unfold upd; rw [if_neg hs]
            refine ihr (g + 1) (by omega) I_1 (fun s hs => ?_) (fun s hs => by rw [o s (by omega)]; exact a2 s hs) (fun a ha => by rw [hI_1, gw_u_o ha]; exact a3 a ha)
            by_cases q9 : s = 2 ^ k + g
            · rw [q9, hI_1, gw_u_s]
              unfold upd
              rw [if_pos rfl, a2 g (by omega)]
              show _ = c0 + (gq_gp f _ k + if (2 ^ k + g).testBit k = true then f k else 0)
              rw [hbit k (Nat.le_refl k), if_pos rfl, if_pos rfl, Int32.add_assoc, gq_gp_c (f := f) (g := f) (so := fun m => g.testBit m) (to := fun m => (2 ^ k + g).testBit m) k (fun _ _ => rfl) (fun j hj => by rw [hbit j (by omega), if_neg (by omega)])]
            · rw [o s q9]; exact a1 s (by omega)
      refine gs_iload_n (pc := 21) (gd gk_10 13 rfl) rfl ?_
      refine gs_aload_n (pc := 22) (gd gk_10 14 rfl) rfl ?_
      refine gs_getR (r := 6) (pc := 23) (gd gk_10 15 rfl) rfl rfl rfl (by decide) ?_
      refine gs_getI (pc := 26) (gd gk_10 16 rfl) rfl rfl ?_
      refine gs_as (Int32.ofNat N) (hN1) ?_
      refine gs_icmp_ge (pc := 29) (gd gk_10 17 rfl) (fun c29 => ?_) (fun c29 => ?_)
      · replace c29 : N ≤ k := (zle (k := N) (m := k) (by omega) (by omega)).mp c29
        -- end 1: return, pc 82, locals [(0, .ref (82)), (1, .int (Int32.ofNat p)), (2, .int (Int32.ofNat k))]
        exact absurd c29 (by omega)
      · replace c29 : ¬ (N ≤ k) := fun q9 => c29 ((zle (k := N) (m := k) (by omega) (by omega)).mpr q9)
        refine gs_iconst (pc := 32) (gd gk_10 18 rfl) (1) rfl ?_
        refine gs_iload_n (pc := 33) (gd gk_10 19 rfl) rfl ?_
        refine gs_ishl (pc := 34) (gd gk_10 20 rfl) ?_
        refine gs_as (Int32.ofNat (2 ^ k)) (gz_shl k (by omega)) ?_
        refine gs_istore_n (ls2 := fun v => [(0, .ref (82)), (1, .int (Int32.ofNat p)), (2, .int (Int32.ofNat k)), (3, .int (v))]) (pc := 35) (gd gk_10 21 rfl) (by rw [gL_10]; decide) (fun _ => rfl) (fun v3_1 hv3_1 => ?_)
        obtain rfl : v3_1 = Int32.ofNat (2 ^ k) := hv3_1.trans (by first | rfl | (simp only [Int32.ofNat_add, Int32.ofNat_mul]; rfl) | (simp only [Int32.ofNat_add, Int32.ofNat_mul]))
        refine gs_iconst (pc := 36) (gd gk_10 22 rfl) (0) rfl ?_
        refine gs_istore (ls2 := fun v => [(0, .ref (82)), (1, .int (Int32.ofNat p)), (2, .int (Int32.ofNat k)), (3, .int (Int32.ofNat (2 ^ k))), (4, .int (v))]) (pc := 37) (gd gk_10 23 rfl) (by rw [gL_10]; decide) (fun _ => rfl) (fun v4_1 hv4_1 => ?_)
        obtain rfl : v4_1 = Int32.ofNat 0 := hv4_1.trans (by first | rfl | (simp only [Int32.ofNat_add, Int32.ofNat_mul]; rfl) | (simp only [Int32.ofNat_add, Int32.ofNat_mul]))
        -- end 2: stop, pc 39, locals [(0, .ref (82)), (1, .int (Int32.ofNat p)), (2, .int (Int32.ofNat k)), (3, .int (Int32.ofNat (2 ^ k))), (4, .int (Int32.ofNat 0))]
        refine inner (2 ^ k) 0 (by omega) I1 (fun s hs => ?_) g1 g2
        rw [g1 s (by omega)]
        show _ = c0 + (gq_gp f _ k + if s.testBit k = true then f k else 0)
        rw [Nat.testBit_lt_two_pow (by omega), if_neg (by decide), Int32.add_zero]
  refine gs_aload_n (pc := 0) (gd gk_10 0 rfl) rfl ?_
  refine gs_getR (r := 84) (pc := 1) (gd gk_10 1 rfl) rfl rfl rfl (by decide) ?_
  refine gs_iconst (pc := 4) (gd gk_10 2 rfl) (0) rfl ?_
  refine gs_aload_n (pc := 5) (gd gk_10 3 rfl) rfl ?_
  refine gs_getR (r := 6) (pc := 6) (gd gk_10 4 rfl) rfl rfl rfl (by decide) ?_
  refine gs_getI (pc := 9) (gd gk_10 5 rfl) rfl rfl ?_
  refine gs_ineg (pc := 12) (gd gk_10 6 rfl) ?_
  refine gs_iload_n (pc := 13) (gd gk_10 7 rfl) rfl ?_
  refine gs_callS (as := [.int (Int32.ofNat p)]) (pc := 14) (gd gk_10 8 rfl) (by decide) rfl rfl (Nat.le_of_ble_eq_true rfl) gq_10_163 (Nat.le_of_ble_eq_true rfl) (c_bits p hp) (fun r_14 w_14 q_14 => ?_)
  obtain ⟨rfl, rfl⟩ := q_14
  refine gs_imul (pc := 17) (gd gk_10 9 rfl) ?_
  refine gs_iastoreK (0) (64) gs_sl (pc := 18) (gd gk_10 10 rfl) rfl rfl (by decide) (by first | rfl | (simp only [Int32.ofNat_add, Int32.ofNat_mul]; rfl) | (simp only [Int32.ofNat_add, Int32.ofNat_mul])) (by omega) (fun I_1 hI_1 => ?_)
  refine gs_iconst (pc := 19) (gd gk_10 11 rfl) (0) rfl ?_
  refine gs_istore_n (ls2 := fun v => [(0, .ref (82)), (1, .int (Int32.ofNat p)), (2, .int (v))]) (pc := 20) (gd gk_10 12 rfl) (by rw [gL_10]; decide) (fun _ => rfl) (fun v2_1 hv2_1 => ?_)
  obtain rfl : v2_1 = Int32.ofNat 0 := hv2_1.trans (by first | rfl | (simp only [Int32.ofNat_add, Int32.ofNat_mul]; rfl) | (simp only [Int32.ofNat_add, Int32.ofNat_mul]))
  -- end 1: stop, pc 21, locals [(0, .ref (82)), (1, .int (Int32.ofNat p)), (2, .int (Int32.ofNat 0))]
  refine lp N 0 (by omega) I_1 (fun s hs => ?_) (fun a ha => by rw [hI_1, gw_u_o ha])
  obtain rfl : s = 0 := by have : 2 ^ 0 = 1 := rfl; omega
  rw [hI_1, gw_u_s]
  unfold upd
  rw [if_pos rfl, hc]
  exact (Int32.add_zero _).symm
end
