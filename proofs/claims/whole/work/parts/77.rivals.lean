/-! ===== two bakers: how strong it is; the class ===== -/
/-- how strong a baker's smell is for a nose, g hours and one on, who bakes in the a-th hour alone -/
def gq_fs (σ : Nat → Nat → Int32) (h0 bc : Nat) (ch : Int32) (s0 : Nat → Int32) (a g m : Nat) : Int32 := gq_sq σ (gq_w0 σ h0) (fun q => decide (q = a)) bc ch s0 (g + 1) (σ 2 m).toNatClampNeg
/-- what follow may change -/
def gq_ff (I I2 : Nat → Nat → Int32) (R : Nat) : Prop := (∀ p, ¬ (57 ≤ p ∧ p ≤ 80) → ¬ (R ≤ p ∧ p ≤ R + 8) → I2 p = I p) ∧ I2 78 0 = I 78 0 ∧ I2 79 0 = I 79 0 ∧ I2 69 = I 69
theorem gq_ff_tr {I I2 I3 : Nat → Nat → Int32} {R : Nat} (h : gq_ff I I2 R) (h' : gq_ff I2 I3 R) : gq_ff I I3 R := ⟨fun p a b => (h'.1 p a b).trans (h.1 p a b), h'.2.1.trans h.2.1, h'.2.2.1.trans h.2.2.1, h'.2.2.2.trans h.2.2.2⟩
theorem gq_ff_w {I I2 : Nat → Nat → Int32} {R : Nat} (h : gq_wf I I2) : gq_ff I I2 R := ⟨fun p a _ => h.1 p (by omega) (by omega) (by omega), h.2.1 78 (Or.inl rfl), h.2.1 79 (Or.inr (Or.inl rfl)), h.1 69 (by omega) (by omega) (by omega)⟩
theorem gq_ff_s {I I2 : Nat → Nat → Int32} {R : Nat} (h : gq_sf I I2) : gq_ff I I2 R := ⟨fun p a _ => h p (by omega) (by omega), by rw [h 78 (by omega) (by omega)], by rw [h 79 (by omega) (by omega)], h 69 (by omega) (by omega)⟩
section
variable {V : gw_V} {n W N h0 L bc : Nat} {I : Nat → Nat → Int32} {J : Nat → Nat → Int64}
abbrev cq_fo12 (n : Nat) (I : Nat → Nat → Int32) (J : Nat → Nat → Int64) (W N h0 L bc : Nat) : Option Value → gw_W → Prop := fun v w' => v = none ∧ ∃ I2, w' = gS n I2 J ∧ gq_ff I I2 87 ∧ gq_on I2 W N h0 L bc ∧ ∀ a, a ≤ L → ∀ g, g < L → ∀ m, m < N → I2 (87 + a) (g * 6 + m) = gq_fs (gz_S I) h0 bc (I 12 1) (I 13) a g m
theorem c_follow_12 (hok : gq_ok (gz_S I) W N) (hh : I 12 3 = Int32.ofNat h0) (hW : h0 + L = W) (hb9 : bc < 10) (h78 : I 78 0 = 0) (h79 : I 79 0 = 0) (h69 : ∀ m, m < N → I 69 m = 0) : gw_E V 18 (0, [(0, .ref 85), (1, .ref 12), (2, .int (Int32.ofNat bc)), (3, .ref 86)], [], gS n I J, 0, 0) (cq_fo12 n I J W N h0 L bc) := by
  have hW8 : W ≤ 8 := hok.2.1
  have hN6 : N ≤ 6 := hok.2.2.2.1
  have lp : ∀ (r a : Nat), r + a = L + 1 → ∀ I1, gq_ff I I1 87 → gq_on I1 W N h0 L bc → I1 57 6 = I 12 1 → (∀ c, c < 10 → I1 59 c = I 13 c) → (∀ b, b < a → ∀ g, g < L → ∀ m, m < N → I1 (87 + b) (g * 6 + m) = gq_fs (gz_S I) h0 bc (I 12 1) (I 13) b g m) → gw_E V 18 (12, [(0, .ref 85), (1, .ref 12), (2, .int (Int32.ofNat bc)), (3, .ref 86), (4, .int (Int32.ofNat a))], [], gS n I1 J, 0, 0) (cq_fo12 n I J W N h0 L bc) := by
    intro r
    induction r with
    | zero =>
      intro a ha I1 g1 g2 g3 g4 g5
      obtain rfl : a = L + 1 := by omega
      refine gs_iload (pc := 12) (gd gk_18 7 rfl) rfl ?_
      refine gs_aload_n (pc := 14) (gd gk_18 8 rfl) rfl ?_
      refine gs_getR (r := 57) (pc := 15) (gd gk_18 9 rfl) rfl rfl rfl (by decide) ?_
      refine gs_getI (pc := 18) (gd gk_18 10 rfl) rfl rfl ?_
      refine gs_as (Int32.ofNat L) (g2.2.2.1) ?_
      refine gs_icmp_gt (pc := 21) (gd gk_18 11 rfl) (fun c21 => ?_) (fun c21 => ?_)
      · replace c21 : L < (L + 1) := (zlt (k := L) (m := (L + 1)) (by omega) (by omega)).mp c21
        -- end 1: return, pc 144, locals [(0, .ref (85)), (1, .ref (12)), (2, .int (Int32.ofNat bc)), (3, .ref (86)), (4, .int (Int32.ofNat (L + 1)))]
        exact gs_ret (pc := 144) (gd gk_18 72 rfl) rfl (Nat.zero_le _) (Nat.zero_le _) (⟨rfl, I1, rfl, g1, g2, fun a ha => g5 a (by omega)⟩)
      · replace c21 : ¬ (L < (L + 1)) := fun q9 => c21 ((zlt (k := L) (m := (L + 1)) (by omega) (by omega)).mpr q9)
        -- end 2: stop, pc 24, locals [(0, .ref (85)), (1, .ref (12)), (2, .int (Int32.ofNat bc)), (3, .ref (86)), (4, .int (Int32.ofNat (L + 1)))]
        exact absurd (Nat.lt_succ_self L) c21
    | succ r ih =>
      intro a ha I1 g1 g2 g3 g4 g5
      have hS1 : gz_S I1 = gz_S I := gz_S_eq (fun p q1 q2 => g1.1 p (by omega) (by omega))
      have glp : ∀ (r2 g : Nat), r2 + g = L → ∀ I2, gq_ff I I2 87 → gq_on I2 W N h0 L bc → I2 57 6 = I 12 1 → (∀ c, c < 10 → I2 59 c = I 13 c) → (∀ b, b < a → ∀ g, g < L → ∀ m, m < N → I2 (87 + b) (g * 6 + m) = gq_fs (gz_S I) h0 bc (I 12 1) (I 13) b g m) → (∀ j, j < L → ∀ c, c < 10 → I2 (59 + (j + 1)) c = gq_sq (gz_S I) (gq_w0 (gz_S I) h0) (fun q => decide (q = a)) bc (I 12 1) (I 13) (j + 1) c) → (∀ j, j < g → ∀ m, m < N → I2 (87 + a) (j * 6 + m) = gq_fs (gz_S I) h0 bc (I 12 1) (I 13) a j m) → gw_E V 18 (63, [(0, .ref 85), (1, .ref 12), (2, .int (Int32.ofNat bc)), (3, .ref 86), (4, .int (Int32.ofNat a)), (5, .int (Int32.ofNat g))], [], gS n I2 J, 0, 0) (cq_fo12 n I J W N h0 L bc) := by
        intro r2
        induction r2 with
        | zero =>
          intro g hg I2 b1 b2 b3 b4 b5 b6 b7
          obtain rfl : g = L := by omega
          refine gs_iload (pc := 63) (gd gk_18 32 rfl) rfl ?_
          refine gs_aload_n (pc := 65) (gd gk_18 33 rfl) rfl ?_
          refine gs_getR (r := 57) (pc := 66) (gd gk_18 34 rfl) rfl rfl rfl (by decide) ?_
          refine gs_getI (pc := 69) (gd gk_18 35 rfl) rfl rfl ?_
          refine gs_as (Int32.ofNat g) (b2.2.2.1) ?_
          refine gs_icmp_ge (pc := 72) (gd gk_18 36 rfl) (fun c72 => ?_) (fun c72 => ?_)
          · replace c72 : g ≤ g := (zle (k := g) (m := g) (by omega) (by omega)).mp c72
            refine gs_iinc (ls2 := fun v => [(0, .ref (85)), (1, .ref (12)), (2, .int (Int32.ofNat bc)), (3, .ref (86)), (4, .int (v)), (5, .int (Int32.ofNat g))]) (pc := 138) (gd gk_18 70 rfl) rfl (by rw [gL_18]; decide) (fun _ => rfl) (1) rfl (fun v4_1 hv4_1 => ?_)
            obtain rfl : v4_1 = Int32.ofNat (a + 1) := hv4_1.trans (by first | rfl | (simp only [Int32.ofNat_add, Int32.ofNat_mul]; rfl) | (simp only [Int32.ofNat_add, Int32.ofNat_mul]))
            refine gs_goto (pc := 141) (gd gk_18 71 rfl) ?_
            -- end 1: stop, pc 12, locals [(0, .ref (85)), (1, .ref (12)), (2, .int (Int32.ofNat bc)), (3, .ref (86)), (4, .int (Int32.ofNat (a + 1))), (5, .int (Int32.ofNat g))]
            refine gs_drop [0, 1, 2, 3, 4] rfl (ih (a + 1) (by omega) I2 b1 b2 b3 b4 (fun b hb => ?_))
            by_cases e : b = a
            · rw [e]; exact b7
            · exact b5 b (by omega)
          · replace c72 : ¬ (g ≤ g) := fun q9 => c72 ((zle (k := g) (m := g) (by omega) (by omega)).mpr q9)
            -- end 2: stop, pc 75, locals [(0, .ref (85)), (1, .ref (12)), (2, .int (Int32.ofNat bc)), (3, .ref (86)), (4, .int (Int32.ofNat a)), (5, .int (Int32.ofNat g))]
            exact absurd (Nat.le_refl _) c72
        | succ r2 ih2 =>
          intro g hg I2 b1 b2 b3 b4 b5 b6 b7
          have mlp : ∀ (r3 m : Nat), r3 + m = N → ∀ I3, gq_ff I I3 87 → gq_on I3 W N h0 L bc → I3 57 6 = I 12 1 → (∀ c, c < 10 → I3 59 c = I 13 c) → (∀ b, b < a → ∀ g, g < L → ∀ m, m < N → I3 (87 + b) (g * 6 + m) = gq_fs (gz_S I) h0 bc (I 12 1) (I 13) b g m) → (∀ j, j < L → ∀ c, c < 10 → I3 (59 + (j + 1)) c = gq_sq (gz_S I) (gq_w0 (gz_S I) h0) (fun q => decide (q = a)) bc (I 12 1) (I 13) (j + 1) c) → (∀ j, j < g → ∀ m, m < N → I3 (87 + a) (j * 6 + m) = gq_fs (gz_S I) h0 bc (I 12 1) (I 13) a j m) → (∀ k, k < m → I3 (87 + a) (g * 6 + k) = gq_fs (gz_S I) h0 bc (I 12 1) (I 13) a g k) → gw_E V 18 (78, [(0, .ref 85), (1, .ref 12), (2, .int (Int32.ofNat bc)), (3, .ref 86), (4, .int (Int32.ofNat a)), (5, .int (Int32.ofNat g)), (6, .int (Int32.ofNat m))], [], gS n I3 J, 0, 0) (cq_fo12 n I J W N h0 L bc) := by
            intro r3
            induction r3 with
            | zero =>
              intro m hm I3 d1 d2 d3 d4 d5 d6 d7 d8
              obtain rfl : m = N := by omega
              have hN3 : I3 6 4 = Int32.ofNat m := d2.1.2.2.1
              refine gs_iload (pc := 78) (gd gk_18 39 rfl) rfl ?_
              refine gs_aload_n (pc := 80) (gd gk_18 40 rfl) rfl ?_
              refine gs_getR (r := 6) (pc := 81) (gd gk_18 41 rfl) rfl rfl rfl (by decide) ?_
              refine gs_getI (pc := 84) (gd gk_18 42 rfl) rfl rfl ?_
              refine gs_as (Int32.ofNat m) (hN3) ?_
              refine gs_icmp_ge (pc := 87) (gd gk_18 43 rfl) (fun c87 => ?_) (fun c87 => ?_)
              · replace c87 : m ≤ m := (zle (k := m) (m := m) (by omega) (by omega)).mp c87
                refine gs_iinc (ls2 := fun v => [(0, .ref (85)), (1, .ref (12)), (2, .int (Int32.ofNat bc)), (3, .ref (86)), (4, .int (Int32.ofNat a)), (5, .int (v)), (6, .int (Int32.ofNat m))]) (pc := 132) (gd gk_18 68 rfl) rfl (by rw [gL_18]; decide) (fun _ => rfl) (1) rfl (fun v5_1 hv5_1 => ?_)
                obtain rfl : v5_1 = Int32.ofNat (g + 1) := hv5_1.trans (by first | rfl | (simp only [Int32.ofNat_add, Int32.ofNat_mul]; rfl) | (simp only [Int32.ofNat_add, Int32.ofNat_mul]))
                refine gs_goto (pc := 135) (gd gk_18 69 rfl) ?_
                -- end 1: stop, pc 63, locals [(0, .ref (85)), (1, .ref (12)), (2, .int (Int32.ofNat bc)), (3, .ref (86)), (4, .int (Int32.ofNat a)), (5, .int (Int32.ofNat (g + 1))), (6, .int (Int32.ofNat m))]
                refine gs_drop [0, 1, 2, 3, 4, 5] rfl (ih2 (g + 1) (by omega) I3 d1 d2 d3 d4 d5 d6 (fun j hj => ?_))
                by_cases e : j = g
                · rw [e]; exact d8
                · exact d7 j (by omega)
              · replace c87 : ¬ (m ≤ m) := fun q9 => c87 ((zle (k := m) (m := m) (by omega) (by omega)).mpr q9)
                -- end 2: stop, pc 90, locals [(0, .ref (85)), (1, .ref (12)), (2, .int (Int32.ofNat bc)), (3, .ref (86)), (4, .int (Int32.ofNat a)), (5, .int (Int32.ofNat g)), (6, .int (Int32.ofNat m))]
                exact absurd (Nat.le_refl _) c87
            | succ r3 ih3 =>
              intro m hm I3 d1 d2 d3 d4 d5 d6 d7 d8
              have hN3 : I3 6 4 = Int32.ofNat N := d2.1.2.2.1
              have hS3 : gz_S I3 = gz_S I := gz_S_eq (fun p q1 q2 => d1.1 p (by omega) (by omega))
              obtain ⟨cc, hcc, hc9⟩ : ∃ cc, I3 8 m = Int32.ofNat cc ∧ cc < 10 := by
                have := gq_ok_n d2.1 m (by omega)
                have h1 : 0 ≤ I3 8 m := this.1
                have h2 : I3 8 m ≤ 9 := this.2
                exact ⟨(I3 8 m).toNatClampNeg, (znat h1).1.symm, by have := (zle_l h1 (n := 9) (by decide)).mp h2; omega⟩
              have hcs : (gz_S I 2 m).toNatClampNeg = cc := by rw [← hS3, show gz_S I3 2 m = I3 8 m from rfl, hcc, znn (by omega)]
              refine gs_iload (pc := 78) (gd gk_18 39 rfl) rfl ?_
              refine gs_aload_n (pc := 80) (gd gk_18 40 rfl) rfl ?_
              refine gs_getR (r := 6) (pc := 81) (gd gk_18 41 rfl) rfl rfl rfl (by decide) ?_
              refine gs_getI (pc := 84) (gd gk_18 42 rfl) rfl rfl ?_
              refine gs_as (Int32.ofNat N) (hN3) ?_
              refine gs_icmp_ge (pc := 87) (gd gk_18 43 rfl) (fun c87 => ?_) (fun c87 => ?_)
              · replace c87 : N ≤ m := (zle (k := N) (m := m) (by omega) (by omega)).mp c87
                -- end 1: stop, pc 132, locals [(0, .ref (85)), (1, .ref (12)), (2, .int (Int32.ofNat bc)), (3, .ref (86)), (4, .int (Int32.ofNat a)), (5, .int (Int32.ofNat g)), (6, .int (Int32.ofNat m))]
                exact absurd c87 (by omega)
              · replace c87 : ¬ (N ≤ m) := fun q9 => c87 ((zle (k := N) (m := m) (by omega) (by omega)).mpr q9)
                refine gs_aload_n (pc := 90) (gd gk_18 44 rfl) rfl ?_
                refine gs_iload (pc := 91) (gd gk_18 45 rfl) rfl ?_
                refine gs_aaloadK (r := 87 + a) (a) (9) (pc := 93) (gd gk_18 46 rfl) (Or.inr rfl) rfl (by decide) (by first | rfl | (simp only [Int32.ofNat_add, Int32.ofNat_mul]; rfl) | (simp only [Int32.ofNat_add, Int32.ofNat_mul])) (by omega) rfl (by omega) ?_
                refine gs_iload (pc := 94) (gd gk_18 47 rfl) rfl ?_
                refine gs_bipush (pc := 96) (gd gk_18 48 rfl) (6) rfl ?_
                refine gs_imul (pc := 98) (gd gk_18 49 rfl) ?_
                refine gs_iload (pc := 99) (gd gk_18 50 rfl) rfl ?_
                refine gs_iadd (pc := 101) (gd gk_18 51 rfl) ?_
                refine gs_aload_n (pc := 102) (gd gk_18 52 rfl) rfl ?_
                refine gs_getR (r := 57) (pc := 103) (gd gk_18 53 rfl) rfl rfl rfl (by decide) ?_
                refine gs_getR (r := 58) (pc := 106) (gd gk_18 54 rfl) rfl rfl rfl (by decide) ?_
                refine gs_iload (pc := 109) (gd gk_18 55 rfl) rfl ?_
                refine gs_iconst (pc := 111) (gd gk_18 56 rfl) (1) rfl ?_
                refine gs_iadd (pc := 112) (gd gk_18 57 rfl) ?_
                refine gs_aaloadK (r := 59 + (g + 1)) ((g + 1)) (9) (pc := 113) (gd gk_18 58 rfl) (Or.inr rfl) rfl (by decide) (by first | rfl | (simp only [Int32.ofNat_add, Int32.ofNat_mul]; rfl) | (simp only [Int32.ofNat_add, Int32.ofNat_mul])) (by omega) rfl (by omega) ?_
                refine gs_aload_n (pc := 114) (gd gk_18 59 rfl) rfl ?_
                refine gs_getR (r := 6) (pc := 115) (gd gk_18 60 rfl) rfl rfl rfl (by decide) ?_
                refine gs_getR (r := 8) (pc := 118) (gd gk_18 61 rfl) rfl rfl rfl (by decide) ?_
                refine gs_iload (pc := 121) (gd gk_18 62 rfl) rfl ?_
                refine gs_ialoadK (m) (6) (pc := 123) (gd gk_18 63 rfl) (Or.inl rfl) rfl (by decide) (by first | rfl | (simp only [Int32.ofNat_add, Int32.ofNat_mul]; rfl) | (simp only [Int32.ofNat_add, Int32.ofNat_mul])) (by omega) ?_
                refine gs_as (Int32.ofNat cc) (hcc) ?_
                refine gs_ialoadK (cc) (10) (pc := 124) (gd gk_18 64 rfl) (Or.inl (gt59 (by omega)).1) (gt59 (by omega)).2 (by decide) (by first | rfl | (simp only [Int32.ofNat_add, Int32.ofNat_mul]; rfl) | (simp only [Int32.ofNat_add, Int32.ofNat_mul])) (by omega) ?_
                refine gs_iastoreK (((g * 6) + m)) (48) gs_sl (pc := 125) (gd gk_18 65 rfl) (gt87 (by omega)).1 (gt87 (by omega)).2 (by decide) (by first | rfl | (simp only [Int32.ofNat_add, Int32.ofNat_mul]; rfl) | (simp only [Int32.ofNat_add, Int32.ofNat_mul])) (by omega) (fun I_1 hI_1 => ?_)
                refine gs_iinc (ls2 := fun v => [(0, .ref (85)), (1, .ref (12)), (2, .int (Int32.ofNat bc)), (3, .ref (86)), (4, .int (Int32.ofNat a)), (5, .int (Int32.ofNat g)), (6, .int (v))]) (pc := 126) (gd gk_18 66 rfl) rfl (by rw [gL_18]; decide) (fun _ => rfl) (1) rfl (fun v6_1 hv6_1 => ?_)
                obtain rfl : v6_1 = Int32.ofNat (m + 1) := hv6_1.trans (by first | rfl | (simp only [Int32.ofNat_add, Int32.ofNat_mul]; rfl) | (simp only [Int32.ofNat_add, Int32.ofNat_mul]))
                refine gs_goto (pc := 129) (gd gk_18 67 rfl) ?_
                -- end 2: stop, pc 78, locals [(0, .ref (85)), (1, .ref (12)), (2, .int (Int32.ofNat bc)), (3, .ref (86)), (4, .int (Int32.ofNat a)), (5, .int (Int32.ofNat g)), (6, .int (Int32.ofNat (m + 1)))]
                have o : ∀ p, p ≠ 87 + a → I_1 p = I3 p := fun p hp => by rw [hI_1, gw_u_o hp]
                have o2 : ∀ s, s ≠ g * 6 + m → I_1 (87 + a) s = I3 (87 + a) s := fun s hs => by rw [hI_1, gw_u_s]; unfold upd; rw [if_neg hs]
                refine ih3 (m + 1) (by omega) I_1 (gq_ff_tr d1 ⟨fun p _ q2 => o p (by omega), by rw [o 78 (by omega)], by rw [o 79 (by omega)], o 69 (by omega)⟩) (gq_on_o (fun p hp => o p (by omega)) d2) (by rw [o 57 (by omega)]; exact d3) (fun c hc => by rw [o 59 (by omega)]; exact d4 c hc) (fun b hb g hg m hm => by rw [o _ (by omega)]; exact d5 b hb g hg m hm) (fun j hj c hc => by rw [o _ (by omega)]; exact d6 j hj c hc) (fun j hj k hk => by rw [o2 _ (by omega)]; exact d7 j hj k hk) (fun k hk => ?_)
                by_cases e : k = m
                · rw [e, hI_1, gw_u_s]
                  unfold upd
                  rw [if_pos rfl, d6 g (by omega) cc hc9]
                  unfold gq_fs
                  rw [hcs]
                · rw [o2 _ (by omega)]; exact d8 k (by omega)
          refine gs_iload (pc := 63) (gd gk_18 32 rfl) rfl ?_
          refine gs_aload_n (pc := 65) (gd gk_18 33 rfl) rfl ?_
          refine gs_getR (r := 57) (pc := 66) (gd gk_18 34 rfl) rfl rfl rfl (by decide) ?_
          refine gs_getI (pc := 69) (gd gk_18 35 rfl) rfl rfl ?_
          refine gs_as (Int32.ofNat L) (b2.2.2.1) ?_
          refine gs_icmp_ge (pc := 72) (gd gk_18 36 rfl) (fun c72 => ?_) (fun c72 => ?_)
          · replace c72 : L ≤ g := (zle (k := L) (m := g) (by omega) (by omega)).mp c72
            -- end 1: stop, pc 138, locals [(0, .ref (85)), (1, .ref (12)), (2, .int (Int32.ofNat bc)), (3, .ref (86)), (4, .int (Int32.ofNat a)), (5, .int (Int32.ofNat g))]
            exact absurd c72 (by omega)
          · replace c72 : ¬ (L ≤ g) := fun q9 => c72 ((zle (k := L) (m := g) (by omega) (by omega)).mpr q9)
            refine gs_iconst (pc := 75) (gd gk_18 37 rfl) (0) rfl ?_
            refine gs_istore (ls2 := fun v => [(0, .ref (85)), (1, .ref (12)), (2, .int (Int32.ofNat bc)), (3, .ref (86)), (4, .int (Int32.ofNat a)), (5, .int (Int32.ofNat g)), (6, .int (v))]) (pc := 76) (gd gk_18 38 rfl) (by rw [gL_18]; decide) (fun _ => rfl) (fun v6_1 hv6_1 => ?_)
            obtain rfl : v6_1 = Int32.ofNat 0 := hv6_1.trans (by first | rfl | (simp only [Int32.ofNat_add, Int32.ofNat_mul]; rfl) | (simp only [Int32.ofNat_add, Int32.ofNat_mul]))
            -- end 2: stop, pc 78, locals [(0, .ref (85)), (1, .ref (12)), (2, .int (Int32.ofNat bc)), (3, .ref (86)), (4, .int (Int32.ofNat a)), (5, .int (Int32.ofNat g)), (6, .int (Int32.ofNat 0))]
            exact mlp N 0 (by omega) I2 b1 b2 b3 b4 b5 b6 b7 (fun k hk => absurd hk (Nat.not_lt_zero _))
      have join56 : ∀ pl : Int32, (∀ q, q < L → gz_in pl (Int32.ofNat (h0 + q)) = decide (q = a)) → gw_E V 18 (56, [(0, .ref 85), (1, .ref 12), (2, .int (Int32.ofNat bc)), (3, .ref 86), (4, .int (Int32.ofNat a))], [.int pl, .ref 57], gS n I1 J, 0, 0) (cq_fo12 n I J W N h0 L bc) := by
        intro pl hpl
        refine gs_iconst (pc := 56) (gd gk_18 28 rfl) (0) rfl ?_
        refine gs_callV (as := [.int (pl), .int (0)]) (pc := 57) (gd gk_18 29 rfl) (by decide) rfl (by decide) rfl rfl (Nat.le_of_ble_eq_true rfl) gq_18_53 (Nat.le_of_ble_eq_true rfl) (c_take2 pl 0 g2) (fun r_57 w_57 q_57 => ?_)
        obtain ⟨rfl, I_t, rfl, t1, t2, t3⟩ := q_57
        refine gs_iconst (pc := 60) (gd gk_18 30 rfl) (0) rfl ?_
        refine gs_istore (ls2 := fun v => [(0, .ref (85)), (1, .ref (12)), (2, .int (Int32.ofNat bc)), (3, .ref (86)), (4, .int (Int32.ofNat a)), (5, .int (v))]) (pc := 61) (gd gk_18 31 rfl) (by rw [gL_18]; decide) (fun _ => rfl) (fun v5_1 hv5_1 => ?_)
        obtain rfl : v5_1 = Int32.ofNat 0 := hv5_1.trans (by first | rfl | (simp only [Int32.ofNat_add, Int32.ofNat_mul]; rfl) | (simp only [Int32.ofNat_add, Int32.ofNat_mul]))
        -- end 1: stop, pc 63, locals [(0, .ref (85)), (1, .ref (12)), (2, .int (Int32.ofNat bc)), (3, .ref (86)), (4, .int (Int32.ofNat a)), (5, .int (Int32.ofNat 0))]
        refine glp L 0 (by omega) I_t (gq_ff_tr g1 (gq_ff_w t1)) t2 (by rw [t1.2.2 6 (by omega) (by omega) (by omega)]; exact g3) (fun c hc => by rw [t1.1 59 (by omega) (by omega) (by omega)]; exact g4 c hc) (fun b hb g hg m hm => by rw [t1.1 _ (by omega) (by omega) (by omega)]; exact g5 b hb g hg m hm) (fun j hj c hc => ?_) (fun j hj => absurd hj (Nat.not_lt_zero _))
        rw [(t3 (j + 1) (by omega)).1 c hc, hS1, g3]
        exact gq_sq_k (L := L) (gq_sim_rf _ N) (fun _ _ => rfl) hpl g4 (j + 1) (by omega) c hc
      refine gs_iload (pc := 12) (gd gk_18 7 rfl) rfl ?_
      refine gs_aload_n (pc := 14) (gd gk_18 8 rfl) rfl ?_
      refine gs_getR (r := 57) (pc := 15) (gd gk_18 9 rfl) rfl rfl rfl (by decide) ?_
      refine gs_getI (pc := 18) (gd gk_18 10 rfl) rfl rfl ?_
      refine gs_as (Int32.ofNat L) (g2.2.2.1) ?_
      refine gs_icmp_gt (pc := 21) (gd gk_18 11 rfl) (fun c21 => ?_) (fun c21 => ?_)
      · replace c21 : L < a := (zlt (k := L) (m := a) (by omega) (by omega)).mp c21
        -- end 1: return, pc 144, locals [(0, .ref (85)), (1, .ref (12)), (2, .int (Int32.ofNat bc)), (3, .ref (86)), (4, .int (Int32.ofNat a))]
        exact absurd c21 (by omega)
      · replace c21 : ¬ (L < a) := fun q9 => c21 ((zlt (k := L) (m := a) (by omega) (by omega)).mpr q9)
        refine gs_aload_n (pc := 24) (gd gk_18 12 rfl) rfl ?_
        refine gs_getR (r := 57) (pc := 25) (gd gk_18 13 rfl) rfl rfl rfl (by decide) ?_
        refine gs_iload (pc := 28) (gd gk_18 14 rfl) rfl ?_
        refine gs_aload_n (pc := 30) (gd gk_18 15 rfl) rfl ?_
        refine gs_getR (r := 57) (pc := 31) (gd gk_18 16 rfl) rfl rfl rfl (by decide) ?_
        refine gs_getI (pc := 34) (gd gk_18 17 rfl) rfl rfl ?_
        refine gs_as (Int32.ofNat L) (g2.2.2.1) ?_
        refine gs_icmp_ge (pc := 37) (gd gk_18 18 rfl) (fun c37 => ?_) (fun c37 => ?_)
        · replace c37 : L ≤ a := (zle (k := L) (m := a) (by omega) (by omega)).mp c37
          refine gs_iconst (pc := 55) (gd gk_18 27 rfl) (0) rfl ?_
          -- end 2: stop, pc 56, locals [(0, .ref (85)), (1, .ref (12)), (2, .int (Int32.ofNat bc)), (3, .ref (86)), (4, .int (Int32.ofNat a))]
          exact join56 0 (fun q hq => by rw [gz_in_0 _ (by omega), decide_eq_false (by omega)])
        · replace c37 : ¬ (L ≤ a) := fun q9 => c37 ((zle (k := L) (m := a) (by omega) (by omega)).mpr q9)
          refine gs_iconst (pc := 40) (gd gk_18 19 rfl) (1) rfl ?_
          refine gs_aload_n (pc := 41) (gd gk_18 20 rfl) rfl ?_
          refine gs_getR (r := 57) (pc := 42) (gd gk_18 21 rfl) rfl rfl rfl (by decide) ?_
          refine gs_getI (pc := 45) (gd gk_18 22 rfl) rfl rfl ?_
          refine gs_as (Int32.ofNat h0) (g2.2.1) ?_
          refine gs_iload (pc := 48) (gd gk_18 23 rfl) rfl ?_
          refine gs_iadd (pc := 50) (gd gk_18 24 rfl) ?_
          refine gs_ishl (pc := 51) (gd gk_18 25 rfl) ?_
          refine gs_goto (pc := 52) (gd gk_18 26 rfl) ?_
          -- end 3: stop, pc 56, locals [(0, .ref (85)), (1, .ref (12)), (2, .int (Int32.ofNat bc)), (3, .ref (86)), (4, .int (Int32.ofNat a))]
          refine join56 _ (fun q hq => ?_)
          rw [← Int32.ofNat_add, gz_one (h0 + a) (by omega) (h0 + q) (by omega), decide_eq_decide]
          omega
  refine gs_aload_n (pc := 0) (gd gk_18 0 rfl) rfl ?_
  refine gs_getR (r := 57) (pc := 1) (gd gk_18 1 rfl) rfl rfl rfl (by decide) ?_
  refine gs_aload_n (pc := 4) (gd gk_18 2 rfl) rfl ?_
  refine gs_iload_n (pc := 5) (gd gk_18 3 rfl) rfl ?_
  refine gs_callV (as := [.ref (12), .int (Int32.ofNat bc)]) (pc := 6) (gd gk_18 4 rfl) (by decide) rfl (by decide) rfl rfl (Nat.le_of_ble_eq_true rfl) gq_18_50 (Nat.le_of_ble_eq_true rfl) (c_start_now bc h0 L hok hh hW hb9 h78 h79 h69) (fun r_6 w_6 q_6 => ?_)
  obtain ⟨rfl, I_s, rfl, s1, s2, s3, s4⟩ := q_6
  refine gs_iconst (pc := 9) (gd gk_18 5 rfl) (0) rfl ?_
  refine gs_istore (ls2 := fun v => [(0, .ref (85)), (1, .ref (12)), (2, .int (Int32.ofNat bc)), (3, .ref (86)), (4, .int (v))]) (pc := 10) (gd gk_18 6 rfl) (by rw [gL_18]; decide) (fun _ => rfl) (fun v4_1 hv4_1 => ?_)
  obtain rfl : v4_1 = Int32.ofNat 0 := hv4_1.trans (by first | rfl | (simp only [Int32.ofNat_add, Int32.ofNat_mul]; rfl) | (simp only [Int32.ofNat_add, Int32.ofNat_mul]))
  -- end 1: stop, pc 12, locals [(0, .ref (85)), (1, .ref (12)), (2, .int (Int32.ofNat bc)), (3, .ref (86)), (4, .int (Int32.ofNat 0))]
  exact lp (L + 1) 0 (by omega) I_s (gq_ff_s s1) s2 s3 s4 (fun b hb => absurd hb (Nat.not_lt_zero _))
abbrev cq_fo14 (n : Nat) (I : Nat → Nat → Int32) (J : Nat → Nat → Int64) (W N h0 L bc : Nat) : Option Value → gw_W → Prop := fun v w' => v = none ∧ ∃ I2, w' = gS n I2 J ∧ gq_ff I I2 97 ∧ gq_on I2 W N h0 L bc ∧ ∀ a, a ≤ L → ∀ g, g < L → ∀ m, m < N → I2 (97 + a) (g * 6 + m) = gq_fs (gz_S I) h0 bc (I 14 1) (I 15) a g m
theorem c_follow_14 (hok : gq_ok (gz_S I) W N) (hh : I 14 3 = Int32.ofNat h0) (hW : h0 + L = W) (hb9 : bc < 10) (h78 : I 78 0 = 0) (h79 : I 79 0 = 0) (h69 : ∀ m, m < N → I 69 m = 0) : gw_E V 18 (0, [(0, .ref 85), (1, .ref 14), (2, .int (Int32.ofNat bc)), (3, .ref 96)], [], gS n I J, 0, 0) (cq_fo14 n I J W N h0 L bc) := by
  have hW8 : W ≤ 8 := hok.2.1
  have hN6 : N ≤ 6 := hok.2.2.2.1
  have lp : ∀ (r a : Nat), r + a = L + 1 → ∀ I1, gq_ff I I1 97 → gq_on I1 W N h0 L bc → I1 57 6 = I 14 1 → (∀ c, c < 10 → I1 59 c = I 15 c) → (∀ b, b < a → ∀ g, g < L → ∀ m, m < N → I1 (97 + b) (g * 6 + m) = gq_fs (gz_S I) h0 bc (I 14 1) (I 15) b g m) → gw_E V 18 (12, [(0, .ref 85), (1, .ref 14), (2, .int (Int32.ofNat bc)), (3, .ref 96), (4, .int (Int32.ofNat a))], [], gS n I1 J, 0, 0) (cq_fo14 n I J W N h0 L bc) := by
    intro r
    induction r with
    | zero =>
      intro a ha I1 g1 g2 g3 g4 g5
      obtain rfl : a = L + 1 := by omega
      refine gs_iload (pc := 12) (gd gk_18 7 rfl) rfl ?_
      refine gs_aload_n (pc := 14) (gd gk_18 8 rfl) rfl ?_
      refine gs_getR (r := 57) (pc := 15) (gd gk_18 9 rfl) rfl rfl rfl (by decide) ?_
      refine gs_getI (pc := 18) (gd gk_18 10 rfl) rfl rfl ?_
      refine gs_as (Int32.ofNat L) (g2.2.2.1) ?_
      refine gs_icmp_gt (pc := 21) (gd gk_18 11 rfl) (fun c21 => ?_) (fun c21 => ?_)
      · replace c21 : L < (L + 1) := (zlt (k := L) (m := (L + 1)) (by omega) (by omega)).mp c21
        -- end 1: return, pc 144, locals [(0, .ref (85)), (1, .ref (14)), (2, .int (Int32.ofNat bc)), (3, .ref (96)), (4, .int (Int32.ofNat (L + 1)))]
        exact gs_ret (pc := 144) (gd gk_18 72 rfl) rfl (Nat.zero_le _) (Nat.zero_le _) (⟨rfl, I1, rfl, g1, g2, fun a ha => g5 a (by omega)⟩)
      · replace c21 : ¬ (L < (L + 1)) := fun q9 => c21 ((zlt (k := L) (m := (L + 1)) (by omega) (by omega)).mpr q9)
        -- end 2: stop, pc 24, locals [(0, .ref (85)), (1, .ref (14)), (2, .int (Int32.ofNat bc)), (3, .ref (96)), (4, .int (Int32.ofNat (L + 1)))]
        exact absurd (Nat.lt_succ_self L) c21
    | succ r ih =>
      intro a ha I1 g1 g2 g3 g4 g5
      have hS1 : gz_S I1 = gz_S I := gz_S_eq (fun p q1 q2 => g1.1 p (by omega) (by omega))
      have glp : ∀ (r2 g : Nat), r2 + g = L → ∀ I2, gq_ff I I2 97 → gq_on I2 W N h0 L bc → I2 57 6 = I 14 1 → (∀ c, c < 10 → I2 59 c = I 15 c) → (∀ b, b < a → ∀ g, g < L → ∀ m, m < N → I2 (97 + b) (g * 6 + m) = gq_fs (gz_S I) h0 bc (I 14 1) (I 15) b g m) → (∀ j, j < L → ∀ c, c < 10 → I2 (59 + (j + 1)) c = gq_sq (gz_S I) (gq_w0 (gz_S I) h0) (fun q => decide (q = a)) bc (I 14 1) (I 15) (j + 1) c) → (∀ j, j < g → ∀ m, m < N → I2 (97 + a) (j * 6 + m) = gq_fs (gz_S I) h0 bc (I 14 1) (I 15) a j m) → gw_E V 18 (63, [(0, .ref 85), (1, .ref 14), (2, .int (Int32.ofNat bc)), (3, .ref 96), (4, .int (Int32.ofNat a)), (5, .int (Int32.ofNat g))], [], gS n I2 J, 0, 0) (cq_fo14 n I J W N h0 L bc) := by
        intro r2
        induction r2 with
        | zero =>
          intro g hg I2 b1 b2 b3 b4 b5 b6 b7
          obtain rfl : g = L := by omega
          refine gs_iload (pc := 63) (gd gk_18 32 rfl) rfl ?_
          refine gs_aload_n (pc := 65) (gd gk_18 33 rfl) rfl ?_
          refine gs_getR (r := 57) (pc := 66) (gd gk_18 34 rfl) rfl rfl rfl (by decide) ?_
          refine gs_getI (pc := 69) (gd gk_18 35 rfl) rfl rfl ?_
          refine gs_as (Int32.ofNat g) (b2.2.2.1) ?_
          refine gs_icmp_ge (pc := 72) (gd gk_18 36 rfl) (fun c72 => ?_) (fun c72 => ?_)
          · replace c72 : g ≤ g := (zle (k := g) (m := g) (by omega) (by omega)).mp c72
            refine gs_iinc (ls2 := fun v => [(0, .ref (85)), (1, .ref (14)), (2, .int (Int32.ofNat bc)), (3, .ref (96)), (4, .int (v)), (5, .int (Int32.ofNat g))]) (pc := 138) (gd gk_18 70 rfl) rfl (by rw [gL_18]; decide) (fun _ => rfl) (1) rfl (fun v4_1 hv4_1 => ?_)
            obtain rfl : v4_1 = Int32.ofNat (a + 1) := hv4_1.trans (by first | rfl | (simp only [Int32.ofNat_add, Int32.ofNat_mul]; rfl) | (simp only [Int32.ofNat_add, Int32.ofNat_mul]))
            refine gs_goto (pc := 141) (gd gk_18 71 rfl) ?_
            -- end 1: stop, pc 12, locals [(0, .ref (85)), (1, .ref (14)), (2, .int (Int32.ofNat bc)), (3, .ref (96)), (4, .int (Int32.ofNat (a + 1))), (5, .int (Int32.ofNat g))]
            refine gs_drop [0, 1, 2, 3, 4] rfl (ih (a + 1) (by omega) I2 b1 b2 b3 b4 (fun b hb => ?_))
            by_cases e : b = a
            · rw [e]; exact b7
            · exact b5 b (by omega)
          · replace c72 : ¬ (g ≤ g) := fun q9 => c72 ((zle (k := g) (m := g) (by omega) (by omega)).mpr q9)
            -- end 2: stop, pc 75, locals [(0, .ref (85)), (1, .ref (14)), (2, .int (Int32.ofNat bc)), (3, .ref (96)), (4, .int (Int32.ofNat a)), (5, .int (Int32.ofNat g))]
            exact absurd (Nat.le_refl _) c72
        | succ r2 ih2 =>
          intro g hg I2 b1 b2 b3 b4 b5 b6 b7
          have mlp : ∀ (r3 m : Nat), r3 + m = N → ∀ I3, gq_ff I I3 97 → gq_on I3 W N h0 L bc → I3 57 6 = I 14 1 → (∀ c, c < 10 → I3 59 c = I 15 c) → (∀ b, b < a → ∀ g, g < L → ∀ m, m < N → I3 (97 + b) (g * 6 + m) = gq_fs (gz_S I) h0 bc (I 14 1) (I 15) b g m) → (∀ j, j < L → ∀ c, c < 10 → I3 (59 + (j + 1)) c = gq_sq (gz_S I) (gq_w0 (gz_S I) h0) (fun q => decide (q = a)) bc (I 14 1) (I 15) (j + 1) c) → (∀ j, j < g → ∀ m, m < N → I3 (97 + a) (j * 6 + m) = gq_fs (gz_S I) h0 bc (I 14 1) (I 15) a j m) → (∀ k, k < m → I3 (97 + a) (g * 6 + k) = gq_fs (gz_S I) h0 bc (I 14 1) (I 15) a g k) → gw_E V 18 (78, [(0, .ref 85), (1, .ref 14), (2, .int (Int32.ofNat bc)), (3, .ref 96), (4, .int (Int32.ofNat a)), (5, .int (Int32.ofNat g)), (6, .int (Int32.ofNat m))], [], gS n I3 J, 0, 0) (cq_fo14 n I J W N h0 L bc) := by
            intro r3
            induction r3 with
            | zero =>
              intro m hm I3 d1 d2 d3 d4 d5 d6 d7 d8
              obtain rfl : m = N := by omega
              have hN3 : I3 6 4 = Int32.ofNat m := d2.1.2.2.1
              refine gs_iload (pc := 78) (gd gk_18 39 rfl) rfl ?_
              refine gs_aload_n (pc := 80) (gd gk_18 40 rfl) rfl ?_
              refine gs_getR (r := 6) (pc := 81) (gd gk_18 41 rfl) rfl rfl rfl (by decide) ?_
              refine gs_getI (pc := 84) (gd gk_18 42 rfl) rfl rfl ?_
              refine gs_as (Int32.ofNat m) (hN3) ?_
              refine gs_icmp_ge (pc := 87) (gd gk_18 43 rfl) (fun c87 => ?_) (fun c87 => ?_)
              · replace c87 : m ≤ m := (zle (k := m) (m := m) (by omega) (by omega)).mp c87
                refine gs_iinc (ls2 := fun v => [(0, .ref (85)), (1, .ref (14)), (2, .int (Int32.ofNat bc)), (3, .ref (96)), (4, .int (Int32.ofNat a)), (5, .int (v)), (6, .int (Int32.ofNat m))]) (pc := 132) (gd gk_18 68 rfl) rfl (by rw [gL_18]; decide) (fun _ => rfl) (1) rfl (fun v5_1 hv5_1 => ?_)
                obtain rfl : v5_1 = Int32.ofNat (g + 1) := hv5_1.trans (by first | rfl | (simp only [Int32.ofNat_add, Int32.ofNat_mul]; rfl) | (simp only [Int32.ofNat_add, Int32.ofNat_mul]))
                refine gs_goto (pc := 135) (gd gk_18 69 rfl) ?_
                -- end 1: stop, pc 63, locals [(0, .ref (85)), (1, .ref (14)), (2, .int (Int32.ofNat bc)), (3, .ref (96)), (4, .int (Int32.ofNat a)), (5, .int (Int32.ofNat (g + 1))), (6, .int (Int32.ofNat m))]
                refine gs_drop [0, 1, 2, 3, 4, 5] rfl (ih2 (g + 1) (by omega) I3 d1 d2 d3 d4 d5 d6 (fun j hj => ?_))
                by_cases e : j = g
                · rw [e]; exact d8
                · exact d7 j (by omega)
              · replace c87 : ¬ (m ≤ m) := fun q9 => c87 ((zle (k := m) (m := m) (by omega) (by omega)).mpr q9)
                -- end 2: stop, pc 90, locals [(0, .ref (85)), (1, .ref (14)), (2, .int (Int32.ofNat bc)), (3, .ref (96)), (4, .int (Int32.ofNat a)), (5, .int (Int32.ofNat g)), (6, .int (Int32.ofNat m))]
                exact absurd (Nat.le_refl _) c87
            | succ r3 ih3 =>
              intro m hm I3 d1 d2 d3 d4 d5 d6 d7 d8
              have hN3 : I3 6 4 = Int32.ofNat N := d2.1.2.2.1
              have hS3 : gz_S I3 = gz_S I := gz_S_eq (fun p q1 q2 => d1.1 p (by omega) (by omega))
              obtain ⟨cc, hcc, hc9⟩ : ∃ cc, I3 8 m = Int32.ofNat cc ∧ cc < 10 := by
                have := gq_ok_n d2.1 m (by omega)
                have h1 : 0 ≤ I3 8 m := this.1
                have h2 : I3 8 m ≤ 9 := this.2
                exact ⟨(I3 8 m).toNatClampNeg, (znat h1).1.symm, by have := (zle_l h1 (n := 9) (by decide)).mp h2; omega⟩
              have hcs : (gz_S I 2 m).toNatClampNeg = cc := by rw [← hS3, show gz_S I3 2 m = I3 8 m from rfl, hcc, znn (by omega)]
              refine gs_iload (pc := 78) (gd gk_18 39 rfl) rfl ?_
              refine gs_aload_n (pc := 80) (gd gk_18 40 rfl) rfl ?_
              refine gs_getR (r := 6) (pc := 81) (gd gk_18 41 rfl) rfl rfl rfl (by decide) ?_
              refine gs_getI (pc := 84) (gd gk_18 42 rfl) rfl rfl ?_
              refine gs_as (Int32.ofNat N) (hN3) ?_
              refine gs_icmp_ge (pc := 87) (gd gk_18 43 rfl) (fun c87 => ?_) (fun c87 => ?_)
              · replace c87 : N ≤ m := (zle (k := N) (m := m) (by omega) (by omega)).mp c87
                -- end 1: stop, pc 132, locals [(0, .ref (85)), (1, .ref (14)), (2, .int (Int32.ofNat bc)), (3, .ref (96)), (4, .int (Int32.ofNat a)), (5, .int (Int32.ofNat g)), (6, .int (Int32.ofNat m))]
                exact absurd c87 (by omega)
              · replace c87 : ¬ (N ≤ m) := fun q9 => c87 ((zle (k := N) (m := m) (by omega) (by omega)).mpr q9)
                refine gs_aload_n (pc := 90) (gd gk_18 44 rfl) rfl ?_
                refine gs_iload (pc := 91) (gd gk_18 45 rfl) rfl ?_
                refine gs_aaloadK (r := 97 + a) (a) (9) (pc := 93) (gd gk_18 46 rfl) (Or.inr rfl) rfl (by decide) (by first | rfl | (simp only [Int32.ofNat_add, Int32.ofNat_mul]; rfl) | (simp only [Int32.ofNat_add, Int32.ofNat_mul])) (by omega) rfl (by omega) ?_
                refine gs_iload (pc := 94) (gd gk_18 47 rfl) rfl ?_
                refine gs_bipush (pc := 96) (gd gk_18 48 rfl) (6) rfl ?_
                refine gs_imul (pc := 98) (gd gk_18 49 rfl) ?_
                refine gs_iload (pc := 99) (gd gk_18 50 rfl) rfl ?_
                refine gs_iadd (pc := 101) (gd gk_18 51 rfl) ?_
                refine gs_aload_n (pc := 102) (gd gk_18 52 rfl) rfl ?_
                refine gs_getR (r := 57) (pc := 103) (gd gk_18 53 rfl) rfl rfl rfl (by decide) ?_
                refine gs_getR (r := 58) (pc := 106) (gd gk_18 54 rfl) rfl rfl rfl (by decide) ?_
                refine gs_iload (pc := 109) (gd gk_18 55 rfl) rfl ?_
                refine gs_iconst (pc := 111) (gd gk_18 56 rfl) (1) rfl ?_
                refine gs_iadd (pc := 112) (gd gk_18 57 rfl) ?_
                refine gs_aaloadK (r := 59 + (g + 1)) ((g + 1)) (9) (pc := 113) (gd gk_18 58 rfl) (Or.inr rfl) rfl (by decide) (by first | rfl | (simp only [Int32.ofNat_add, Int32.ofNat_mul]; rfl) | (simp only [Int32.ofNat_add, Int32.ofNat_mul])) (by omega) rfl (by omega) ?_
                refine gs_aload_n (pc := 114) (gd gk_18 59 rfl) rfl ?_
                refine gs_getR (r := 6) (pc := 115) (gd gk_18 60 rfl) rfl rfl rfl (by decide) ?_
                refine gs_getR (r := 8) (pc := 118) (gd gk_18 61 rfl) rfl rfl rfl (by decide) ?_
                refine gs_iload (pc := 121) (gd gk_18 62 rfl) rfl ?_
                refine gs_ialoadK (m) (6) (pc := 123) (gd gk_18 63 rfl) (Or.inl rfl) rfl (by decide) (by first | rfl | (simp only [Int32.ofNat_add, Int32.ofNat_mul]; rfl) | (simp only [Int32.ofNat_add, Int32.ofNat_mul])) (by omega) ?_
                refine gs_as (Int32.ofNat cc) (hcc) ?_
                refine gs_ialoadK (cc) (10) (pc := 124) (gd gk_18 64 rfl) (Or.inl (gt59 (by omega)).1) (gt59 (by omega)).2 (by decide) (by first | rfl | (simp only [Int32.ofNat_add, Int32.ofNat_mul]; rfl) | (simp only [Int32.ofNat_add, Int32.ofNat_mul])) (by omega) ?_
                refine gs_iastoreK (((g * 6) + m)) (48) gs_sl (pc := 125) (gd gk_18 65 rfl) (gt97 (by omega)).1 (gt97 (by omega)).2 (by decide) (by first | rfl | (simp only [Int32.ofNat_add, Int32.ofNat_mul]; rfl) | (simp only [Int32.ofNat_add, Int32.ofNat_mul])) (by omega) (fun I_1 hI_1 => ?_)
                refine gs_iinc (ls2 := fun v => [(0, .ref (85)), (1, .ref (14)), (2, .int (Int32.ofNat bc)), (3, .ref (96)), (4, .int (Int32.ofNat a)), (5, .int (Int32.ofNat g)), (6, .int (v))]) (pc := 126) (gd gk_18 66 rfl) rfl (by rw [gL_18]; decide) (fun _ => rfl) (1) rfl (fun v6_1 hv6_1 => ?_)
                obtain rfl : v6_1 = Int32.ofNat (m + 1) := hv6_1.trans (by first | rfl | (simp only [Int32.ofNat_add, Int32.ofNat_mul]; rfl) | (simp only [Int32.ofNat_add, Int32.ofNat_mul]))
                refine gs_goto (pc := 129) (gd gk_18 67 rfl) ?_
                -- end 2: stop, pc 78, locals [(0, .ref (85)), (1, .ref (14)), (2, .int (Int32.ofNat bc)), (3, .ref (96)), (4, .int (Int32.ofNat a)), (5, .int (Int32.ofNat g)), (6, .int (Int32.ofNat (m + 1)))]
                have o : ∀ p, p ≠ 97 + a → I_1 p = I3 p := fun p hp => by rw [hI_1, gw_u_o hp]
                have o2 : ∀ s, s ≠ g * 6 + m → I_1 (97 + a) s = I3 (97 + a) s := fun s hs => by rw [hI_1, gw_u_s]; unfold upd; rw [if_neg hs]
                refine ih3 (m + 1) (by omega) I_1 (gq_ff_tr d1 ⟨fun p _ q2 => o p (by omega), by rw [o 78 (by omega)], by rw [o 79 (by omega)], o 69 (by omega)⟩) (gq_on_o (fun p hp => o p (by omega)) d2) (by rw [o 57 (by omega)]; exact d3) (fun c hc => by rw [o 59 (by omega)]; exact d4 c hc) (fun b hb g hg m hm => by rw [o _ (by omega)]; exact d5 b hb g hg m hm) (fun j hj c hc => by rw [o _ (by omega)]; exact d6 j hj c hc) (fun j hj k hk => by rw [o2 _ (by omega)]; exact d7 j hj k hk) (fun k hk => ?_)
                by_cases e : k = m
                · rw [e, hI_1, gw_u_s]
                  unfold upd
                  rw [if_pos rfl, d6 g (by omega) cc hc9]
                  unfold gq_fs
                  rw [hcs]
                · rw [o2 _ (by omega)]; exact d8 k (by omega)
          refine gs_iload (pc := 63) (gd gk_18 32 rfl) rfl ?_
          refine gs_aload_n (pc := 65) (gd gk_18 33 rfl) rfl ?_
          refine gs_getR (r := 57) (pc := 66) (gd gk_18 34 rfl) rfl rfl rfl (by decide) ?_
          refine gs_getI (pc := 69) (gd gk_18 35 rfl) rfl rfl ?_
          refine gs_as (Int32.ofNat L) (b2.2.2.1) ?_
          refine gs_icmp_ge (pc := 72) (gd gk_18 36 rfl) (fun c72 => ?_) (fun c72 => ?_)
          · replace c72 : L ≤ g := (zle (k := L) (m := g) (by omega) (by omega)).mp c72
            -- end 1: stop, pc 138, locals [(0, .ref (85)), (1, .ref (14)), (2, .int (Int32.ofNat bc)), (3, .ref (96)), (4, .int (Int32.ofNat a)), (5, .int (Int32.ofNat g))]
            exact absurd c72 (by omega)
          · replace c72 : ¬ (L ≤ g) := fun q9 => c72 ((zle (k := L) (m := g) (by omega) (by omega)).mpr q9)
            refine gs_iconst (pc := 75) (gd gk_18 37 rfl) (0) rfl ?_
            refine gs_istore (ls2 := fun v => [(0, .ref (85)), (1, .ref (14)), (2, .int (Int32.ofNat bc)), (3, .ref (96)), (4, .int (Int32.ofNat a)), (5, .int (Int32.ofNat g)), (6, .int (v))]) (pc := 76) (gd gk_18 38 rfl) (by rw [gL_18]; decide) (fun _ => rfl) (fun v6_1 hv6_1 => ?_)
            obtain rfl : v6_1 = Int32.ofNat 0 := hv6_1.trans (by first | rfl | (simp only [Int32.ofNat_add, Int32.ofNat_mul]; rfl) | (simp only [Int32.ofNat_add, Int32.ofNat_mul]))
            -- end 2: stop, pc 78, locals [(0, .ref (85)), (1, .ref (14)), (2, .int (Int32.ofNat bc)), (3, .ref (96)), (4, .int (Int32.ofNat a)), (5, .int (Int32.ofNat g)), (6, .int (Int32.ofNat 0))]
            exact mlp N 0 (by omega) I2 b1 b2 b3 b4 b5 b6 b7 (fun k hk => absurd hk (Nat.not_lt_zero _))
      have join56 : ∀ pl : Int32, (∀ q, q < L → gz_in pl (Int32.ofNat (h0 + q)) = decide (q = a)) → gw_E V 18 (56, [(0, .ref 85), (1, .ref 14), (2, .int (Int32.ofNat bc)), (3, .ref 96), (4, .int (Int32.ofNat a))], [.int pl, .ref 57], gS n I1 J, 0, 0) (cq_fo14 n I J W N h0 L bc) := by
        intro pl hpl
        refine gs_iconst (pc := 56) (gd gk_18 28 rfl) (0) rfl ?_
        refine gs_callV (as := [.int (pl), .int (0)]) (pc := 57) (gd gk_18 29 rfl) (by decide) rfl (by decide) rfl rfl (Nat.le_of_ble_eq_true rfl) gq_18_53 (Nat.le_of_ble_eq_true rfl) (c_take2 pl 0 g2) (fun r_57 w_57 q_57 => ?_)
        obtain ⟨rfl, I_t, rfl, t1, t2, t3⟩ := q_57
        refine gs_iconst (pc := 60) (gd gk_18 30 rfl) (0) rfl ?_
        refine gs_istore (ls2 := fun v => [(0, .ref (85)), (1, .ref (14)), (2, .int (Int32.ofNat bc)), (3, .ref (96)), (4, .int (Int32.ofNat a)), (5, .int (v))]) (pc := 61) (gd gk_18 31 rfl) (by rw [gL_18]; decide) (fun _ => rfl) (fun v5_1 hv5_1 => ?_)
        obtain rfl : v5_1 = Int32.ofNat 0 := hv5_1.trans (by first | rfl | (simp only [Int32.ofNat_add, Int32.ofNat_mul]; rfl) | (simp only [Int32.ofNat_add, Int32.ofNat_mul]))
        -- end 1: stop, pc 63, locals [(0, .ref (85)), (1, .ref (14)), (2, .int (Int32.ofNat bc)), (3, .ref (96)), (4, .int (Int32.ofNat a)), (5, .int (Int32.ofNat 0))]
        refine glp L 0 (by omega) I_t (gq_ff_tr g1 (gq_ff_w t1)) t2 (by rw [t1.2.2 6 (by omega) (by omega) (by omega)]; exact g3) (fun c hc => by rw [t1.1 59 (by omega) (by omega) (by omega)]; exact g4 c hc) (fun b hb g hg m hm => by rw [t1.1 _ (by omega) (by omega) (by omega)]; exact g5 b hb g hg m hm) (fun j hj c hc => ?_) (fun j hj => absurd hj (Nat.not_lt_zero _))
        rw [(t3 (j + 1) (by omega)).1 c hc, hS1, g3]
        exact gq_sq_k (L := L) (gq_sim_rf _ N) (fun _ _ => rfl) hpl g4 (j + 1) (by omega) c hc
      refine gs_iload (pc := 12) (gd gk_18 7 rfl) rfl ?_
      refine gs_aload_n (pc := 14) (gd gk_18 8 rfl) rfl ?_
      refine gs_getR (r := 57) (pc := 15) (gd gk_18 9 rfl) rfl rfl rfl (by decide) ?_
      refine gs_getI (pc := 18) (gd gk_18 10 rfl) rfl rfl ?_
      refine gs_as (Int32.ofNat L) (g2.2.2.1) ?_
      refine gs_icmp_gt (pc := 21) (gd gk_18 11 rfl) (fun c21 => ?_) (fun c21 => ?_)
      · replace c21 : L < a := (zlt (k := L) (m := a) (by omega) (by omega)).mp c21
        -- end 1: return, pc 144, locals [(0, .ref (85)), (1, .ref (14)), (2, .int (Int32.ofNat bc)), (3, .ref (96)), (4, .int (Int32.ofNat a))]
        exact absurd c21 (by omega)
      · replace c21 : ¬ (L < a) := fun q9 => c21 ((zlt (k := L) (m := a) (by omega) (by omega)).mpr q9)
        refine gs_aload_n (pc := 24) (gd gk_18 12 rfl) rfl ?_
        refine gs_getR (r := 57) (pc := 25) (gd gk_18 13 rfl) rfl rfl rfl (by decide) ?_
        refine gs_iload (pc := 28) (gd gk_18 14 rfl) rfl ?_
        refine gs_aload_n (pc := 30) (gd gk_18 15 rfl) rfl ?_
        refine gs_getR (r := 57) (pc := 31) (gd gk_18 16 rfl) rfl rfl rfl (by decide) ?_
        refine gs_getI (pc := 34) (gd gk_18 17 rfl) rfl rfl ?_
        refine gs_as (Int32.ofNat L) (g2.2.2.1) ?_
        refine gs_icmp_ge (pc := 37) (gd gk_18 18 rfl) (fun c37 => ?_) (fun c37 => ?_)
        · replace c37 : L ≤ a := (zle (k := L) (m := a) (by omega) (by omega)).mp c37
          refine gs_iconst (pc := 55) (gd gk_18 27 rfl) (0) rfl ?_
          -- end 2: stop, pc 56, locals [(0, .ref (85)), (1, .ref (14)), (2, .int (Int32.ofNat bc)), (3, .ref (96)), (4, .int (Int32.ofNat a))]
          exact join56 0 (fun q hq => by rw [gz_in_0 _ (by omega), decide_eq_false (by omega)])
        · replace c37 : ¬ (L ≤ a) := fun q9 => c37 ((zle (k := L) (m := a) (by omega) (by omega)).mpr q9)
          refine gs_iconst (pc := 40) (gd gk_18 19 rfl) (1) rfl ?_
          refine gs_aload_n (pc := 41) (gd gk_18 20 rfl) rfl ?_
          refine gs_getR (r := 57) (pc := 42) (gd gk_18 21 rfl) rfl rfl rfl (by decide) ?_
          refine gs_getI (pc := 45) (gd gk_18 22 rfl) rfl rfl ?_
          refine gs_as (Int32.ofNat h0) (g2.2.1) ?_
          refine gs_iload (pc := 48) (gd gk_18 23 rfl) rfl ?_
          refine gs_iadd (pc := 50) (gd gk_18 24 rfl) ?_
          refine gs_ishl (pc := 51) (gd gk_18 25 rfl) ?_
          refine gs_goto (pc := 52) (gd gk_18 26 rfl) ?_
          -- end 3: stop, pc 56, locals [(0, .ref (85)), (1, .ref (14)), (2, .int (Int32.ofNat bc)), (3, .ref (96)), (4, .int (Int32.ofNat a))]
          refine join56 _ (fun q hq => ?_)
          rw [← Int32.ofNat_add, gz_one (h0 + a) (by omega) (h0 + q) (by omega), decide_eq_decide]
          omega
  refine gs_aload_n (pc := 0) (gd gk_18 0 rfl) rfl ?_
  refine gs_getR (r := 57) (pc := 1) (gd gk_18 1 rfl) rfl rfl rfl (by decide) ?_
  refine gs_aload_n (pc := 4) (gd gk_18 2 rfl) rfl ?_
  refine gs_iload_n (pc := 5) (gd gk_18 3 rfl) rfl ?_
  refine gs_callV (as := [.ref (14), .int (Int32.ofNat bc)]) (pc := 6) (gd gk_18 4 rfl) (by decide) rfl (by decide) rfl rfl (Nat.le_of_ble_eq_true rfl) gq_18_50 (Nat.le_of_ble_eq_true rfl) (c_start_sup bc h0 L hok hh hW hb9 h78 h79 h69) (fun r_6 w_6 q_6 => ?_)
  obtain ⟨rfl, I_s, rfl, s1, s2, s3, s4⟩ := q_6
  refine gs_iconst (pc := 9) (gd gk_18 5 rfl) (0) rfl ?_
  refine gs_istore (ls2 := fun v => [(0, .ref (85)), (1, .ref (14)), (2, .int (Int32.ofNat bc)), (3, .ref (96)), (4, .int (v))]) (pc := 10) (gd gk_18 6 rfl) (by rw [gL_18]; decide) (fun _ => rfl) (fun v4_1 hv4_1 => ?_)
  obtain rfl : v4_1 = Int32.ofNat 0 := hv4_1.trans (by first | rfl | (simp only [Int32.ofNat_add, Int32.ofNat_mul]; rfl) | (simp only [Int32.ofNat_add, Int32.ofNat_mul]))
  -- end 1: stop, pc 12, locals [(0, .ref (85)), (1, .ref (14)), (2, .int (Int32.ofNat bc)), (3, .ref (96)), (4, .int (Int32.ofNat 0))]
  exact lp (L + 1) 0 (by omega) I_s (gq_ff_s s1) s2 s3 s4 (fun b hb => absurd hb (Nat.not_lt_zero _))
end
