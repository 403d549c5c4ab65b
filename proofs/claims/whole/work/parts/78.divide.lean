/-! ===== two bakers: who pays whom; the class's divide ===== -/
def gq_du (σ : Nat → Nat → Int32) (h0 : Nat) (x y : Int32) (g m : Nat) : Int32 := gq_due σ m (decide (σ 3 m ≤ (if x < y then y else x))) (decide (σ 1 (h0 + g) = 1))
def gq_ts (d x y : Int32) : Bool := decide (0 < d) && decide (x < y)
def gq_e1 (σ : Nat → Nat → Int32) (h0 : Nat) (A B : Nat → Nat → Int32) (g : Nat) (x : Int32) : Nat → Int32
  | 0 => x
  | k + 1 => if gq_ts (gq_du σ h0 (A g k) (B g k) g k) (A g k) (B g k) then gq_e1 σ h0 A B g x k else gq_e1 σ h0 A B g x k + gq_du σ h0 (A g k) (B g k) g k
def gq_e2 (σ : Nat → Nat → Int32) (h0 : Nat) (A B : Nat → Nat → Int32) (g : Nat) (x : Int32) : Nat → Int32
  | 0 => x
  | k + 1 => if gq_ts (gq_du σ h0 (A g k) (B g k) g k) (A g k) (B g k) then gq_e2 σ h0 A B g x k + gq_du σ h0 (A g k) (B g k) g k else gq_e2 σ h0 A B g x k
def gq_f1 (σ : Nat → Nat → Int32) (N h0 : Nat) (A B : Nat → Nat → Int32) (x : Int32) : Nat → Int32
  | 0 => x
  | g + 1 => gq_e1 σ h0 A B g (gq_f1 σ N h0 A B x g) N
def gq_f2 (σ : Nat → Nat → Int32) (N h0 : Nat) (A B : Nat → Nat → Int32) (x : Int32) : Nat → Int32
  | 0 => x
  | g + 1 => gq_e2 σ h0 A B g (gq_f2 σ N h0 A B x g) N
section
variable {V : gw_V} {n W N h0 L bc : Nat} {I : Nat → Nat → Int32} {J : Nat → Nat → Int64}
abbrev cq_dv (n : Nat) (I : Nat → Nat → Int32) (J : Nat → Nat → Int64) (N h0 L : Nat) (A B : Nat → Nat → Int32) (a b : Nat) : Option Value → gw_W → Prop := fun v w' => v = none ∧ ∃ I2, w' = gS n I2 J ∧ I2 (107 + a) b = gq_f1 (gz_S I) N h0 A B (if a < L then -gz_S I 0 2 else 0) L ∧ I2 (117 + a) b = gq_f2 (gz_S I) N h0 A B (if b < L then -gz_S I 0 2 else 0) L ∧ ∀ p q, ¬ (p = 107 + a ∧ q = b) → ¬ (p = 117 + a ∧ q = b) → I2 p q = I p q
theorem c_divide (A B : Nat → Nat → Int32) (a b : Nat) (ha : a ≤ L) (hb : b ≤ L) (hok : gq_ok (gz_S I) W N) (hW : h0 + L = W) (hh : I 57 11 = Int32.ofNat h0) (hL : I 57 12 = Int32.ofNat L) (hA : ∀ g, g < L → ∀ m, m < N → I (87 + a) (g * 6 + m) = A g m) (hB : ∀ g, g < L → ∀ m, m < N → I (97 + b) (g * 6 + m) = B g m) : gw_E V 19 (0, [(0, .ref 85), (1, .int (Int32.ofNat a)), (2, .int (Int32.ofNat b))], [], gS n I J, 0, 0) (cq_dv n I J N h0 L A B a b) := by
  obtain ⟨-, hW8, hN, hN6, -, -, -, -, hns⟩ := id hok
  have hN : I 6 4 = Int32.ofNat N := hN
  generalize hx1 : (if a < L then -gz_S I 0 2 else 0) = x1
  generalize hx2 : (if b < L then -gz_S I 0 2 else 0) = x2
  have glp : ∀ (r g : Nat), r + g = L → ∀ y1 y2, y1 = gq_f1 (gz_S I) N h0 A B x1 g → y2 = gq_f2 (gz_S I) N h0 A B x2 g → gw_E V 19 (52, [(0, .ref 85), (1, .int (Int32.ofNat a)), (2, .int (Int32.ofNat b)), (3, .int y1), (4, .int y2), (5, .int (Int32.ofNat g))], [], gS n I J, 0, 0) (cq_dv n I J N h0 L A B a b) := by
    intro r
    induction r with
    | zero =>
      intro g hg y1 y2 e1 e2
      obtain rfl : g = L := by omega
      refine gs_iload (pc := 52) (gd gk_19 26 rfl) rfl ?_
      refine gs_aload_n (pc := 54) (gd gk_19 27 rfl) rfl ?_
      refine gs_getR (r := 57) (pc := 55) (gd gk_19 28 rfl) rfl rfl rfl (by decide) ?_
      refine gs_getI (pc := 58) (gd gk_19 29 rfl) rfl rfl ?_
      refine gs_as (Int32.ofNat g) (hL) ?_
      refine gs_icmp_ge (pc := 61) (gd gk_19 30 rfl) (fun c61 => ?_) (fun c61 => ?_)
      · replace c61 : g ≤ g := (zle (k := g) (m := g) (by omega) (by omega)).mp c61
        refine gs_aload_n (pc := 219) (gd gk_19 111 rfl) rfl ?_
        refine gs_getR (r := 106) (pc := 220) (gd gk_19 112 rfl) rfl rfl rfl (by decide) ?_
        refine gs_iload_n (pc := 223) (gd gk_19 113 rfl) rfl ?_
        refine gs_aaloadK (r := 107 + a) (a) (9) (pc := 224) (gd gk_19 114 rfl) (Or.inr rfl) rfl (by decide) (by first | rfl | (simp only [Int32.ofNat_add, Int32.ofNat_mul]; rfl) | (simp only [Int32.ofNat_add, Int32.ofNat_mul])) (by omega) rfl (by omega) ?_
        refine gs_iload_n (pc := 225) (gd gk_19 115 rfl) rfl ?_
        refine gs_iload_n (pc := 226) (gd gk_19 116 rfl) rfl ?_
        refine gs_iastoreK (b) (9) gs_sl (pc := 227) (gd gk_19 117 rfl) (gt107 (by omega)).1 (gt107 (by omega)).2 (by decide) (by first | rfl | (simp only [Int32.ofNat_add, Int32.ofNat_mul]; rfl) | (simp only [Int32.ofNat_add, Int32.ofNat_mul])) (by omega) (fun I_1 hI_1 => ?_)
        refine gs_aload_n (pc := 228) (gd gk_19 118 rfl) rfl ?_
        refine gs_getR (r := 116) (pc := 229) (gd gk_19 119 rfl) rfl rfl rfl (by decide) ?_
        refine gs_iload_n (pc := 232) (gd gk_19 120 rfl) rfl ?_
        refine gs_aaloadK (r := 117 + a) (a) (9) (pc := 233) (gd gk_19 121 rfl) (Or.inr rfl) rfl (by decide) (by first | rfl | (simp only [Int32.ofNat_add, Int32.ofNat_mul]; rfl) | (simp only [Int32.ofNat_add, Int32.ofNat_mul])) (by omega) rfl (by omega) ?_
        refine gs_iload_n (pc := 234) (gd gk_19 122 rfl) rfl ?_
        refine gs_iload (pc := 235) (gd gk_19 123 rfl) rfl ?_
        refine gs_iastoreK (b) (9) gs_sl (pc := 237) (gd gk_19 124 rfl) (gt117 (by omega)).1 (gt117 (by omega)).2 (by decide) (by first | rfl | (simp only [Int32.ofNat_add, Int32.ofNat_mul]; rfl) | (simp only [Int32.ofNat_add, Int32.ofNat_mul])) (by omega) (fun I_2 hI_2 => ?_)
        -- end 1: return, pc 238, locals [(0, .ref (85)), (1, .int (Int32.ofNat a)), (2, .int (Int32.ofNat b)), (3, .int (y1)), (4, .int (y2)), (5, .int (Int32.ofNat g))]
        exact gs_ret (pc := 238) (gd gk_19 125 rfl) rfl (Nat.zero_le _) (Nat.zero_le _) (⟨rfl, I_2, rfl, by rw [hI_2, gw_u_o (by omega), hI_1, gw_u_s]; unfold upd; rw [if_pos rfl, e1, hx1], by rw [hI_2, gw_u_s]; unfold upd; rw [if_pos rfl, e2, hx2], fun p q h1 h2 => by rw [hI_2, hI_1]; unfold gw_u; rw [if_neg h2, if_neg h1]⟩)
      · replace c61 : ¬ (g ≤ g) := fun q9 => c61 ((zle (k := g) (m := g) (by omega) (by omega)).mpr q9)
        -- end 2: stop, pc 64, locals [(0, .ref (85)), (1, .int (Int32.ofNat a)), (2, .int (Int32.ofNat b)), (3, .int (y1)), (4, .int (y2)), (5, .int (Int32.ofNat g))]
        exact absurd (Nat.le_refl _) c61
    | succ r ih =>
      intro g hg y1 y2 e1 e2
      have mlp : ∀ (r2 m : Nat), r2 + m = N → ∀ z1 z2, z1 = gq_e1 (gz_S I) h0 A B g (gq_f1 (gz_S I) N h0 A B x1 g) m → z2 = gq_e2 (gz_S I) h0 A B g (gq_f2 (gz_S I) N h0 A B x2 g) m → gw_E V 19 (96, [(0, .ref 85), (1, .int (Int32.ofNat a)), (2, .int (Int32.ofNat b)), (3, .int z1), (4, .int z2), (5, .int (Int32.ofNat g)), (6, .int (gz_b (decide (gz_S I 1 (h0 + g) = 1)))), (7, .int (Int32.ofNat m))], [], gS n I J, 0, 0) (cq_dv n I J N h0 L A B a b) := by
        intro r2
        induction r2 with
        | zero =>
          intro m hm z1 z2 f1 f2
          obtain rfl : m = N := by omega
          refine gs_iload (pc := 96) (gd gk_19 48 rfl) rfl ?_
          refine gs_aload_n (pc := 98) (gd gk_19 49 rfl) rfl ?_
          refine gs_getR (r := 6) (pc := 99) (gd gk_19 50 rfl) rfl rfl rfl (by decide) ?_
          refine gs_getI (pc := 102) (gd gk_19 51 rfl) rfl rfl ?_
          refine gs_as (Int32.ofNat m) (hN) ?_
          refine gs_icmp_ge (pc := 105) (gd gk_19 52 rfl) (fun c105 => ?_) (fun c105 => ?_)
          · replace c105 : m ≤ m := (zle (k := m) (m := m) (by omega) (by omega)).mp c105
            refine gs_iinc (ls2 := fun v => [(0, .ref (85)), (1, .int (Int32.ofNat a)), (2, .int (Int32.ofNat b)), (3, .int (z1)), (4, .int (z2)), (5, .int (v)), (6, .int (gz_b (decide (gz_S I 1 (h0 + g) = 1)))), (7, .int (Int32.ofNat m))]) (pc := 213) (gd gk_19 109 rfl) rfl (by rw [gL_19]; decide) (fun _ => rfl) (1) rfl (fun v5_1 hv5_1 => ?_)
            obtain rfl : v5_1 = Int32.ofNat (g + 1) := hv5_1.trans (by first | rfl | (simp only [Int32.ofNat_add, Int32.ofNat_mul]; rfl) | (simp only [Int32.ofNat_add, Int32.ofNat_mul]))
            refine gs_goto (pc := 216) (gd gk_19 110 rfl) ?_
            -- end 1: stop, pc 52, locals [(0, .ref (85)), (1, .int (Int32.ofNat a)), (2, .int (Int32.ofNat b)), (3, .int (z1)), (4, .int (z2)), (5, .int (Int32.ofNat (g + 1))), (6, .int (gz_b (decide (gz_S I 1 (h0 + g) = 1)))), (7, .int (Int32.ofNat m))]
            exact gs_drop [0, 1, 2, 3, 4, 5] rfl (ih (g + 1) (by omega) z1 z2 f1 f2)
          · replace c105 : ¬ (m ≤ m) := fun q9 => c105 ((zle (k := m) (m := m) (by omega) (by omega)).mpr q9)
            -- end 2: stop, pc 108, locals [(0, .ref (85)), (1, .int (Int32.ofNat a)), (2, .int (Int32.ofNat b)), (3, .int (z1)), (4, .int (z2)), (5, .int (Int32.ofNat g)), (6, .int (gz_b (decide (gz_S I 1 (h0 + g) = 1)))), (7, .int (Int32.ofNat m))]
            exact absurd (Nat.le_refl _) c105
        | succ r2 ih2 =>
          intro m hm z1 z2 f1 f2
          have hA9 : I (87 + a) (g * 6 + m) = A g m := hA g (by omega) m (by omega)
          have hB9 : I (97 + b) (g * 6 + m) = B g m := hB g (by omega) m (by omega)
          have hns9 := hns m (by omega)
          have join : ∀ bh : Bool, bh = decide (gz_S I 3 m ≤ (if A g m < B g m then B g m else A g m)) → gw_E V 19 (173, [(0, .ref 85), (1, .int (Int32.ofNat a)), (2, .int (Int32.ofNat b)), (3, .int z1), (4, .int z2), (5, .int (Int32.ofNat g)), (6, .int (gz_b (decide (gz_S I 1 (h0 + g) = 1)))), (7, .int (Int32.ofNat m)), (8, .int (A g m)), (9, .int (B g m))], [.int (gz_b bh), .int (Int32.ofNat m), .ref 6], gS n I J, 0, 0) (cq_dv n I J N h0 L A B a b) := by
            intro bh hbh
            have hdu : gq_due (gz_S I) m bh (decide (gz_S I 1 (h0 + g) = 1)) = gq_du (gz_S I) h0 (A g m) (B g m) g m := by rw [hbh]; rfl
            refine gs_iload (pc := 173) (gd gk_19 90 rfl) rfl ?_
            refine gs_callV (as := [.int (Int32.ofNat m), .int (gz_b bh), .int (gz_b (decide (gz_S I 1 (h0 + g) = 1)))]) (pc := 175) (gd gk_19 91 rfl) (by decide) rfl (by decide) rfl rfl (Nat.le_of_ble_eq_true rfl) gq_19_36 (Nat.le_of_ble_eq_true rfl) (c_due m (by omega) bh (decide (gz_S I 1 (h0 + g) = 1)) hns9.2.2.2) (fun r_175 w_175 q_175 => ?_)
            obtain ⟨rfl, rfl⟩ := q_175
            rw [hdu]
            refine gs_istore (ls2 := fun v => [(0, .ref (85)), (1, .int (Int32.ofNat a)), (2, .int (Int32.ofNat b)), (3, .int (z1)), (4, .int (z2)), (5, .int (Int32.ofNat g)), (6, .int (gz_b (decide (gz_S I 1 (h0 + g) = 1)))), (7, .int (Int32.ofNat m)), (8, .int (A g m)), (9, .int (B g m)), (10, .int (v))]) (pc := 178) (gd gk_19 92 rfl) (by rw [gL_19]; decide) (fun _ => rfl) (fun v10_1 hv10_1 => ?_)
            refine gs_iload (pc := 180) (gd gk_19 93 rfl) rfl ?_
            refine gs_if_le (pc := 182) (gd gk_19 94 rfl) (fun c182 => ?_) (fun c182 => ?_)
            · refine gs_iload_n (pc := 202) (gd gk_19 103 rfl) rfl ?_
              refine gs_iload (pc := 203) (gd gk_19 104 rfl) rfl ?_
              refine gs_iadd (pc := 205) (gd gk_19 105 rfl) ?_
              refine gs_istore_n (ls2 := fun v => [(0, .ref (85)), (1, .int (Int32.ofNat a)), (2, .int (Int32.ofNat b)), (3, .int (v)), (4, .int (z2)), (5, .int (Int32.ofNat g)), (6, .int (gz_b (decide (gz_S I 1 (h0 + g) = 1)))), (7, .int (Int32.ofNat m)), (8, .int (A g m)), (9, .int (B g m)), (10, .int (v10_1))]) (pc := 206) (gd gk_19 106 rfl) (by rw [gL_19]; decide) (fun _ => rfl) (fun v3_1 hv3_1 => ?_)
              refine gs_iinc (ls2 := fun v => [(0, .ref (85)), (1, .int (Int32.ofNat a)), (2, .int (Int32.ofNat b)), (3, .int (v3_1)), (4, .int (z2)), (5, .int (Int32.ofNat g)), (6, .int (gz_b (decide (gz_S I 1 (h0 + g) = 1)))), (7, .int (v)), (8, .int (A g m)), (9, .int (B g m)), (10, .int (v10_1))]) (pc := 207) (gd gk_19 107 rfl) rfl (by rw [gL_19]; decide) (fun _ => rfl) (1) rfl (fun v7_1 hv7_1 => ?_)
              obtain rfl : v7_1 = Int32.ofNat (m + 1) := hv7_1.trans (by first | rfl | (simp only [Int32.ofNat_add, Int32.ofNat_mul]; rfl) | (simp only [Int32.ofNat_add, Int32.ofNat_mul]))
              refine gs_goto (pc := 210) (gd gk_19 108 rfl) ?_
              -- end 1: stop, pc 96, locals [(0, .ref (85)), (1, .int (Int32.ofNat a)), (2, .int (Int32.ofNat b)), (3, .int (v3_1)), (4, .int (z2)), (5, .int (Int32.ofNat g)), (6, .int (gz_b (decide (gz_S I 1 (h0 + g) = 1)))), (7, .int (Int32.ofNat (m + 1))), (8, .int (A g m)), (9, .int (B g m)), (10, .int (v10_1))]
              have ht : gq_ts (gq_du (gz_S I) h0 (A g m) (B g m) g m) (A g m) (B g m) = false := by unfold gq_ts; rw [← hv10_1, decide_eq_false (Int32.not_lt.mpr c182)]; rfl
              refine gs_drop [0, 1, 2, 3, 4, 5, 6, 7] rfl (ih2 (m + 1) (by omega) _ _ ?_ ?_)
              · rw [hv3_1, f1, hv10_1]; show _ = if _ then _ else _; rw [if_neg (by rw [ht]; decide)]
              · rw [f2]; show _ = if _ then _ else _; rw [if_neg (by rw [ht]; decide)]
            · refine gs_iload (pc := 185) (gd gk_19 95 rfl) rfl ?_
              refine gs_iload (pc := 187) (gd gk_19 96 rfl) rfl ?_
              refine gs_icmp_le (pc := 189) (gd gk_19 97 rfl) (fun c189 => ?_) (fun c189 => ?_)
              · refine gs_iload_n (pc := 202) (gd gk_19 103 rfl) rfl ?_
                refine gs_iload (pc := 203) (gd gk_19 104 rfl) rfl ?_
                refine gs_iadd (pc := 205) (gd gk_19 105 rfl) ?_
                refine gs_istore_n (ls2 := fun v => [(0, .ref (85)), (1, .int (Int32.ofNat a)), (2, .int (Int32.ofNat b)), (3, .int (v)), (4, .int (z2)), (5, .int (Int32.ofNat g)), (6, .int (gz_b (decide (gz_S I 1 (h0 + g) = 1)))), (7, .int (Int32.ofNat m)), (8, .int (A g m)), (9, .int (B g m)), (10, .int (v10_1))]) (pc := 206) (gd gk_19 106 rfl) (by rw [gL_19]; decide) (fun _ => rfl) (fun v3_2 hv3_2 => ?_)
                refine gs_iinc (ls2 := fun v => [(0, .ref (85)), (1, .int (Int32.ofNat a)), (2, .int (Int32.ofNat b)), (3, .int (v3_2)), (4, .int (z2)), (5, .int (Int32.ofNat g)), (6, .int (gz_b (decide (gz_S I 1 (h0 + g) = 1)))), (7, .int (v)), (8, .int (A g m)), (9, .int (B g m)), (10, .int (v10_1))]) (pc := 207) (gd gk_19 107 rfl) rfl (by rw [gL_19]; decide) (fun _ => rfl) (1) rfl (fun v7_2 hv7_2 => ?_)
                obtain rfl : v7_2 = Int32.ofNat (m + 1) := hv7_2.trans (by first | rfl | (simp only [Int32.ofNat_add, Int32.ofNat_mul]; rfl) | (simp only [Int32.ofNat_add, Int32.ofNat_mul]))
                refine gs_goto (pc := 210) (gd gk_19 108 rfl) ?_
                -- end 2: stop, pc 96, locals [(0, .ref (85)), (1, .int (Int32.ofNat a)), (2, .int (Int32.ofNat b)), (3, .int (v3_2)), (4, .int (z2)), (5, .int (Int32.ofNat g)), (6, .int (gz_b (decide (gz_S I 1 (h0 + g) = 1)))), (7, .int (Int32.ofNat (m + 1))), (8, .int (A g m)), (9, .int (B g m)), (10, .int (v10_1))]
                have ht : gq_ts (gq_du (gz_S I) h0 (A g m) (B g m) g m) (A g m) (B g m) = false := by unfold gq_ts; rw [decide_eq_false (Int32.not_lt.mpr c189), Bool.and_false]
                refine gs_drop [0, 1, 2, 3, 4, 5, 6, 7] rfl (ih2 (m + 1) (by omega) _ _ ?_ ?_)
                · rw [hv3_2, f1, hv10_1]; show _ = if _ then _ else _; rw [if_neg (by rw [ht]; decide)]
                · rw [f2]; show _ = if _ then _ else _; rw [if_neg (by rw [ht]; decide)]
              · refine gs_iload (pc := 192) (gd gk_19 98 rfl) rfl ?_
                refine gs_iload (pc := 194) (gd gk_19 99 rfl) rfl ?_
                refine gs_iadd (pc := 196) (gd gk_19 100 rfl) ?_
                refine gs_istore (ls2 := fun v => [(0, .ref (85)), (1, .int (Int32.ofNat a)), (2, .int (Int32.ofNat b)), (3, .int (z1)), (4, .int (v)), (5, .int (Int32.ofNat g)), (6, .int (gz_b (decide (gz_S I 1 (h0 + g) = 1)))), (7, .int (Int32.ofNat m)), (8, .int (A g m)), (9, .int (B g m)), (10, .int (v10_1))]) (pc := 197) (gd gk_19 101 rfl) (by rw [gL_19]; decide) (fun _ => rfl) (fun v4_1 hv4_1 => ?_)
                refine gs_goto (pc := 199) (gd gk_19 102 rfl) ?_
                refine gs_iinc (ls2 := fun v => [(0, .ref (85)), (1, .int (Int32.ofNat a)), (2, .int (Int32.ofNat b)), (3, .int (z1)), (4, .int (v4_1)), (5, .int (Int32.ofNat g)), (6, .int (gz_b (decide (gz_S I 1 (h0 + g) = 1)))), (7, .int (v)), (8, .int (A g m)), (9, .int (B g m)), (10, .int (v10_1))]) (pc := 207) (gd gk_19 107 rfl) rfl (by rw [gL_19]; decide) (fun _ => rfl) (1) rfl (fun v7_3 hv7_3 => ?_)
                obtain rfl : v7_3 = Int32.ofNat (m + 1) := hv7_3.trans (by first | rfl | (simp only [Int32.ofNat_add, Int32.ofNat_mul]; rfl) | (simp only [Int32.ofNat_add, Int32.ofNat_mul]))
                refine gs_goto (pc := 210) (gd gk_19 108 rfl) ?_
                -- end 3: stop, pc 96, locals [(0, .ref (85)), (1, .int (Int32.ofNat a)), (2, .int (Int32.ofNat b)), (3, .int (z1)), (4, .int (v4_1)), (5, .int (Int32.ofNat g)), (6, .int (gz_b (decide (gz_S I 1 (h0 + g) = 1)))), (7, .int (Int32.ofNat (m + 1))), (8, .int (A g m)), (9, .int (B g m)), (10, .int (v10_1))]
                have ht : gq_ts (gq_du (gz_S I) h0 (A g m) (B g m) g m) (A g m) (B g m) = true := by unfold gq_ts; rw [← hv10_1, decide_eq_true (Int32.not_le.mp c182), decide_eq_true (Int32.not_le.mp c189)]; rfl
                refine gs_drop [0, 1, 2, 3, 4, 5, 6, 7] rfl (ih2 (m + 1) (by omega) _ _ ?_ ?_)
                · rw [f1]; show _ = if _ then _ else _; rw [if_pos ht]
                · rw [hv4_1, f2, hv10_1]; show _ = if _ then _ else _; rw [if_pos ht]
          refine gs_iload (pc := 96) (gd gk_19 48 rfl) rfl ?_
          refine gs_aload_n (pc := 98) (gd gk_19 49 rfl) rfl ?_
          refine gs_getR (r := 6) (pc := 99) (gd gk_19 50 rfl) rfl rfl rfl (by decide) ?_
          refine gs_getI (pc := 102) (gd gk_19 51 rfl) rfl rfl ?_
          refine gs_as (Int32.ofNat N) (hN) ?_
          refine gs_icmp_ge (pc := 105) (gd gk_19 52 rfl) (fun c105 => ?_) (fun c105 => ?_)
          · replace c105 : N ≤ m := (zle (k := N) (m := m) (by omega) (by omega)).mp c105
            -- end 1: stop, pc 213, locals [(0, .ref (85)), (1, .int (Int32.ofNat a)), (2, .int (Int32.ofNat b)), (3, .int (z1)), (4, .int (z2)), (5, .int (Int32.ofNat g)), (6, .int (gz_b (decide (gz_S I 1 (h0 + g) = 1)))), (7, .int (Int32.ofNat m))]
            exact absurd c105 (by omega)
          · replace c105 : ¬ (N ≤ m) := fun q9 => c105 ((zle (k := N) (m := m) (by omega) (by omega)).mpr q9)
            refine gs_aload_n (pc := 108) (gd gk_19 53 rfl) rfl ?_
            refine gs_getR (r := 86) (pc := 109) (gd gk_19 54 rfl) rfl rfl rfl (by decide) ?_
            refine gs_iload_n (pc := 112) (gd gk_19 55 rfl) rfl ?_
            refine gs_aaloadK (r := 87 + a) (a) (9) (pc := 113) (gd gk_19 56 rfl) (Or.inr rfl) rfl (by decide) (by first | rfl | (simp only [Int32.ofNat_add, Int32.ofNat_mul]; rfl) | (simp only [Int32.ofNat_add, Int32.ofNat_mul])) (by omega) rfl (by omega) ?_
            refine gs_iload (pc := 114) (gd gk_19 57 rfl) rfl ?_
            refine gs_bipush (pc := 116) (gd gk_19 58 rfl) (6) rfl ?_
            refine gs_imul (pc := 118) (gd gk_19 59 rfl) ?_
            refine gs_iload (pc := 119) (gd gk_19 60 rfl) rfl ?_
            refine gs_iadd (pc := 121) (gd gk_19 61 rfl) ?_
            refine gs_ialoadK (((g * 6) + m)) (48) (pc := 122) (gd gk_19 62 rfl) (Or.inl (gt87 (by omega)).1) (gt87 (by omega)).2 (by decide) (by first | rfl | (simp only [Int32.ofNat_add, Int32.ofNat_mul]; rfl) | (simp only [Int32.ofNat_add, Int32.ofNat_mul])) (by omega) ?_
            refine gs_istore (ls2 := fun v => [(0, .ref (85)), (1, .int (Int32.ofNat a)), (2, .int (Int32.ofNat b)), (3, .int (z1)), (4, .int (z2)), (5, .int (Int32.ofNat g)), (6, .int (gz_b (decide (gz_S I 1 (h0 + g) = 1)))), (7, .int (Int32.ofNat m)), (8, .int (v))]) (pc := 123) (gd gk_19 63 rfl) (by rw [gL_19]; decide) (fun _ => rfl) (fun v8_1 hv8_1 => ?_)
            obtain rfl : v8_1 = A g m := hv8_1.trans hA9
            refine gs_aload_n (pc := 125) (gd gk_19 64 rfl) rfl ?_
            refine gs_getR (r := 96) (pc := 126) (gd gk_19 65 rfl) rfl rfl rfl (by decide) ?_
            refine gs_iload_n (pc := 129) (gd gk_19 66 rfl) rfl ?_
            refine gs_aaloadK (r := 97 + b) (b) (9) (pc := 130) (gd gk_19 67 rfl) (Or.inr rfl) rfl (by decide) (by first | rfl | (simp only [Int32.ofNat_add, Int32.ofNat_mul]; rfl) | (simp only [Int32.ofNat_add, Int32.ofNat_mul])) (by omega) rfl (by omega) ?_
            refine gs_iload (pc := 131) (gd gk_19 68 rfl) rfl ?_
            refine gs_bipush (pc := 133) (gd gk_19 69 rfl) (6) rfl ?_
            refine gs_imul (pc := 135) (gd gk_19 70 rfl) ?_
            refine gs_iload (pc := 136) (gd gk_19 71 rfl) rfl ?_
            refine gs_iadd (pc := 138) (gd gk_19 72 rfl) ?_
            refine gs_ialoadK (((g * 6) + m)) (48) (pc := 139) (gd gk_19 73 rfl) (Or.inl (gt97 (by omega)).1) (gt97 (by omega)).2 (by decide) (by first | rfl | (simp only [Int32.ofNat_add, Int32.ofNat_mul]; rfl) | (simp only [Int32.ofNat_add, Int32.ofNat_mul])) (by omega) ?_
            refine gs_istore (ls2 := fun v => [(0, .ref (85)), (1, .int (Int32.ofNat a)), (2, .int (Int32.ofNat b)), (3, .int (z1)), (4, .int (z2)), (5, .int (Int32.ofNat g)), (6, .int (gz_b (decide (gz_S I 1 (h0 + g) = 1)))), (7, .int (Int32.ofNat m)), (8, .int (A g m)), (9, .int (v))]) (pc := 140) (gd gk_19 74 rfl) (by rw [gL_19]; decide) (fun _ => rfl) (fun v9_1 hv9_1 => ?_)
            obtain rfl : v9_1 = B g m := hv9_1.trans hB9
            refine gs_aload_n (pc := 142) (gd gk_19 75 rfl) rfl ?_
            refine gs_getR (r := 6) (pc := 143) (gd gk_19 76 rfl) rfl rfl rfl (by decide) ?_
            refine gs_iload (pc := 146) (gd gk_19 77 rfl) rfl ?_
            refine gs_iload (pc := 148) (gd gk_19 78 rfl) rfl ?_
            refine gs_iload (pc := 150) (gd gk_19 79 rfl) rfl ?_
            refine gs_mmax (pc := 152) (gd gk_19 80 rfl) (by decide) (by decide) (Nat.zero_le _) (Nat.zero_le _) (Nat.le_of_ble_eq_true rfl) ?_
            refine gs_aload_n (pc := 155) (gd gk_19 81 rfl) rfl ?_
            refine gs_getR (r := 6) (pc := 156) (gd gk_19 82 rfl) rfl rfl rfl (by decide) ?_
            refine gs_getR (r := 9) (pc := 159) (gd gk_19 83 rfl) rfl rfl rfl (by decide) ?_
            refine gs_iload (pc := 162) (gd gk_19 84 rfl) rfl ?_
            refine gs_ialoadK (m) (6) (pc := 164) (gd gk_19 85 rfl) (Or.inl rfl) rfl (by decide) (by first | rfl | (simp only [Int32.ofNat_add, Int32.ofNat_mul]; rfl) | (simp only [Int32.ofNat_add, Int32.ofNat_mul])) (by omega) ?_
            refine gs_icmp_lt (pc := 165) (gd gk_19 86 rfl) (fun c165 => ?_) (fun c165 => ?_)
            · refine gs_iconst (pc := 172) (gd gk_19 89 rfl) (0) rfl ?_
              -- end 2: stop, pc 173, locals [(0, .ref (85)), (1, .int (Int32.ofNat a)), (2, .int (Int32.ofNat b)), (3, .int (z1)), (4, .int (z2)), (5, .int (Int32.ofNat g)), (6, .int (gz_b (decide (gz_S I 1 (h0 + g) = 1)))), (7, .int (Int32.ofNat m)), (8, .int (A g m)), (9, .int (B g m))]
              exact join false (decide_eq_false (Int32.not_le.mpr c165)).symm
            · refine gs_iconst (pc := 168) (gd gk_19 87 rfl) (1) rfl ?_
              refine gs_goto (pc := 169) (gd gk_19 88 rfl) ?_
              -- end 3: stop, pc 173, locals [(0, .ref (85)), (1, .int (Int32.ofNat a)), (2, .int (Int32.ofNat b)), (3, .int (z1)), (4, .int (z2)), (5, .int (Int32.ofNat g)), (6, .int (gz_b (decide (gz_S I 1 (h0 + g) = 1)))), (7, .int (Int32.ofNat m)), (8, .int (A g m)), (9, .int (B g m))]
              exact join true (decide_eq_true (Int32.not_lt.mp c165)).symm
      refine gs_iload (pc := 52) (gd gk_19 26 rfl) rfl ?_
      refine gs_aload_n (pc := 54) (gd gk_19 27 rfl) rfl ?_
      refine gs_getR (r := 57) (pc := 55) (gd gk_19 28 rfl) rfl rfl rfl (by decide) ?_
      refine gs_getI (pc := 58) (gd gk_19 29 rfl) rfl rfl ?_
      refine gs_as (Int32.ofNat L) (hL) ?_
      refine gs_icmp_ge (pc := 61) (gd gk_19 30 rfl) (fun c61 => ?_) (fun c61 => ?_)
      · replace c61 : L ≤ g := (zle (k := L) (m := g) (by omega) (by omega)).mp c61
        -- end 1: stop, pc 219, locals [(0, .ref (85)), (1, .int (Int32.ofNat a)), (2, .int (Int32.ofNat b)), (3, .int (y1)), (4, .int (y2)), (5, .int (Int32.ofNat g))]
        exact absurd c61 (by omega)
      · replace c61 : ¬ (L ≤ g) := fun q9 => c61 ((zle (k := L) (m := g) (by omega) (by omega)).mpr q9)
        refine gs_aload_n (pc := 64) (gd gk_19 31 rfl) rfl ?_
        refine gs_getR (r := 6) (pc := 65) (gd gk_19 32 rfl) rfl rfl rfl (by decide) ?_
        refine gs_getR (r := 7) (pc := 68) (gd gk_19 33 rfl) rfl rfl rfl (by decide) ?_
        refine gs_aload_n (pc := 71) (gd gk_19 34 rfl) rfl ?_
        refine gs_getR (r := 57) (pc := 72) (gd gk_19 35 rfl) rfl rfl rfl (by decide) ?_
        refine gs_getI (pc := 75) (gd gk_19 36 rfl) rfl rfl ?_
        refine gs_as (Int32.ofNat h0) (hh) ?_
        refine gs_iload (pc := 78) (gd gk_19 37 rfl) rfl ?_
        refine gs_iadd (pc := 80) (gd gk_19 38 rfl) ?_
        refine gs_ialoadK ((h0 + g)) (8) (pc := 81) (gd gk_19 39 rfl) (Or.inl rfl) rfl (by decide) (by first | rfl | (simp only [Int32.ofNat_add, Int32.ofNat_mul]; rfl) | (simp only [Int32.ofNat_add, Int32.ofNat_mul])) (by omega) ?_
        refine gs_iconst (pc := 82) (gd gk_19 40 rfl) (1) rfl ?_
        refine gs_icmp_ne (pc := 83) (gd gk_19 41 rfl) (fun c83 => ?_) (fun c83 => ?_)
        · refine gs_iconst (pc := 90) (gd gk_19 44 rfl) (0) rfl ?_
          refine gs_istore (ls2 := fun v => [(0, .ref (85)), (1, .int (Int32.ofNat a)), (2, .int (Int32.ofNat b)), (3, .int (y1)), (4, .int (y2)), (5, .int (Int32.ofNat g)), (6, .int (v))]) (pc := 91) (gd gk_19 45 rfl) (by rw [gL_19]; decide) (fun _ => rfl) (fun v6_1 hv6_1 => ?_)
          obtain rfl : v6_1 = Int32.ofNat 0 := hv6_1.trans (by first | rfl | (simp only [Int32.ofNat_add, Int32.ofNat_mul]; rfl) | (simp only [Int32.ofNat_add, Int32.ofNat_mul]))
          refine gs_iconst (pc := 93) (gd gk_19 46 rfl) (0) rfl ?_
          refine gs_istore (ls2 := fun v => [(0, .ref (85)), (1, .int (Int32.ofNat a)), (2, .int (Int32.ofNat b)), (3, .int (y1)), (4, .int (y2)), (5, .int (Int32.ofNat g)), (6, .int (Int32.ofNat 0)), (7, .int (v))]) (pc := 94) (gd gk_19 47 rfl) (by rw [gL_19]; decide) (fun _ => rfl) (fun v7_1 hv7_1 => ?_)
          obtain rfl : v7_1 = Int32.ofNat 0 := hv7_1.trans (by first | rfl | (simp only [Int32.ofNat_add, Int32.ofNat_mul]; rfl) | (simp only [Int32.ofNat_add, Int32.ofNat_mul]))
          -- end 2: stop, pc 96, locals [(0, .ref (85)), (1, .int (Int32.ofNat a)), (2, .int (Int32.ofNat b)), (3, .int (y1)), (4, .int (y2)), (5, .int (Int32.ofNat g)), (6, .int (Int32.ofNat 0)), (7, .int (Int32.ofNat 0))]
          have hE : decide (gz_S I 1 (h0 + g) = 1) = false := decide_eq_false c83
          have k9 := mlp N 0 (by omega) y1 y2 e1 e2
          rw [hE] at k9
          exact k9
        · refine gs_iconst (pc := 86) (gd gk_19 42 rfl) (1) rfl ?_
          refine gs_goto (pc := 87) (gd gk_19 43 rfl) ?_
          refine gs_istore (ls2 := fun v => [(0, .ref (85)), (1, .int (Int32.ofNat a)), (2, .int (Int32.ofNat b)), (3, .int (y1)), (4, .int (y2)), (5, .int (Int32.ofNat g)), (6, .int (v))]) (pc := 91) (gd gk_19 45 rfl) (by rw [gL_19]; decide) (fun _ => rfl) (fun v6_2 hv6_2 => ?_)
          obtain rfl : v6_2 = Int32.ofNat 1 := hv6_2.trans (by first | rfl | (simp only [Int32.ofNat_add, Int32.ofNat_mul]; rfl) | (simp only [Int32.ofNat_add, Int32.ofNat_mul]))
          refine gs_iconst (pc := 93) (gd gk_19 46 rfl) (0) rfl ?_
          refine gs_istore (ls2 := fun v => [(0, .ref (85)), (1, .int (Int32.ofNat a)), (2, .int (Int32.ofNat b)), (3, .int (y1)), (4, .int (y2)), (5, .int (Int32.ofNat g)), (6, .int (Int32.ofNat 1)), (7, .int (v))]) (pc := 94) (gd gk_19 47 rfl) (by rw [gL_19]; decide) (fun _ => rfl) (fun v7_2 hv7_2 => ?_)
          obtain rfl : v7_2 = Int32.ofNat 0 := hv7_2.trans (by first | rfl | (simp only [Int32.ofNat_add, Int32.ofNat_mul]; rfl) | (simp only [Int32.ofNat_add, Int32.ofNat_mul]))
          -- end 3: stop, pc 96, locals [(0, .ref (85)), (1, .int (Int32.ofNat a)), (2, .int (Int32.ofNat b)), (3, .int (y1)), (4, .int (y2)), (5, .int (Int32.ofNat g)), (6, .int (Int32.ofNat 1)), (7, .int (Int32.ofNat 0))]
          have hE : decide (gz_S I 1 (h0 + g) = 1) = true := decide_eq_true c83
          have k9 := mlp N 0 (by omega) y1 y2 e1 e2
          rw [hE] at k9
          exact k9
  refine gs_iload_n (pc := 0) (gd gk_19 0 rfl) rfl ?_
  refine gs_aload_n (pc := 1) (gd gk_19 1 rfl) rfl ?_
  refine gs_getR (r := 57) (pc := 2) (gd gk_19 2 rfl) rfl rfl rfl (by decide) ?_
  refine gs_getI (pc := 5) (gd gk_19 3 rfl) rfl rfl ?_
  refine gs_as (Int32.ofNat L) (hL) ?_
  refine gs_icmp_ge (pc := 8) (gd gk_19 4 rfl) (fun c8 => ?_) (fun c8 => ?_)
  · replace c8 : L ≤ a := (zle (k := L) (m := a) (by omega) (by omega)).mp c8
    refine gs_iconst (pc := 22) (gd gk_19 10 rfl) (0) rfl ?_
    refine gs_istore_n (ls2 := fun v => [(0, .ref (85)), (1, .int (Int32.ofNat a)), (2, .int (Int32.ofNat b)), (3, .int (v))]) (pc := 23) (gd gk_19 11 rfl) (by rw [gL_19]; decide) (fun _ => rfl) (fun v3_1 hv3_1 => ?_)
    obtain rfl : v3_1 = Int32.ofNat 0 := hv3_1.trans (by first | rfl | (simp only [Int32.ofNat_add, Int32.ofNat_mul]; rfl) | (simp only [Int32.ofNat_add, Int32.ofNat_mul]))
    refine gs_iload_n (pc := 24) (gd gk_19 12 rfl) rfl ?_
    refine gs_aload_n (pc := 25) (gd gk_19 13 rfl) rfl ?_
    refine gs_getR (r := 57) (pc := 26) (gd gk_19 14 rfl) rfl rfl rfl (by decide) ?_
    refine gs_getI (pc := 29) (gd gk_19 15 rfl) rfl rfl ?_
    refine gs_as (Int32.ofNat L) (hL) ?_
    refine gs_icmp_ge (pc := 32) (gd gk_19 16 rfl) (fun c32 => ?_) (fun c32 => ?_)
    · replace c32 : L ≤ b := (zle (k := L) (m := b) (by omega) (by omega)).mp c32
      refine gs_iconst (pc := 46) (gd gk_19 22 rfl) (0) rfl ?_
      refine gs_istore (ls2 := fun v => [(0, .ref (85)), (1, .int (Int32.ofNat a)), (2, .int (Int32.ofNat b)), (3, .int (Int32.ofNat 0)), (4, .int (v))]) (pc := 47) (gd gk_19 23 rfl) (by rw [gL_19]; decide) (fun _ => rfl) (fun v4_1 hv4_1 => ?_)
      obtain rfl : v4_1 = Int32.ofNat 0 := hv4_1.trans (by first | rfl | (simp only [Int32.ofNat_add, Int32.ofNat_mul]; rfl) | (simp only [Int32.ofNat_add, Int32.ofNat_mul]))
      refine gs_iconst (pc := 49) (gd gk_19 24 rfl) (0) rfl ?_
      refine gs_istore (ls2 := fun v => [(0, .ref (85)), (1, .int (Int32.ofNat a)), (2, .int (Int32.ofNat b)), (3, .int (Int32.ofNat 0)), (4, .int (Int32.ofNat 0)), (5, .int (v))]) (pc := 50) (gd gk_19 25 rfl) (by rw [gL_19]; decide) (fun _ => rfl) (fun v5_1 hv5_1 => ?_)
      obtain rfl : v5_1 = Int32.ofNat 0 := hv5_1.trans (by first | rfl | (simp only [Int32.ofNat_add, Int32.ofNat_mul]; rfl) | (simp only [Int32.ofNat_add, Int32.ofNat_mul]))
      -- end 1: stop, pc 52, locals [(0, .ref (85)), (1, .int (Int32.ofNat a)), (2, .int (Int32.ofNat b)), (3, .int (Int32.ofNat 0)), (4, .int (Int32.ofNat 0)), (5, .int (Int32.ofNat 0))]
      exact glp L 0 (by omega) _ _ (by show _ = x1; rw [← hx1, if_neg (by omega)]; rfl) (by show _ = x2; rw [← hx2, if_neg (by omega)]; rfl)
    · replace c32 : ¬ (L ≤ b) := fun q9 => c32 ((zle (k := L) (m := b) (by omega) (by omega)).mpr q9)
      refine gs_aload_n (pc := 35) (gd gk_19 17 rfl) rfl ?_
      refine gs_getR (r := 6) (pc := 36) (gd gk_19 18 rfl) rfl rfl rfl (by decide) ?_
      refine gs_getI (pc := 39) (gd gk_19 19 rfl) rfl rfl ?_
      refine gs_ineg (pc := 42) (gd gk_19 20 rfl) ?_
      refine gs_goto (pc := 43) (gd gk_19 21 rfl) ?_
      refine gs_istore (ls2 := fun v => [(0, .ref (85)), (1, .int (Int32.ofNat a)), (2, .int (Int32.ofNat b)), (3, .int (Int32.ofNat 0)), (4, .int (v))]) (pc := 47) (gd gk_19 23 rfl) (by rw [gL_19]; decide) (fun _ => rfl) (fun v4_2 hv4_2 => ?_)
      refine gs_iconst (pc := 49) (gd gk_19 24 rfl) (0) rfl ?_
      refine gs_istore (ls2 := fun v => [(0, .ref (85)), (1, .int (Int32.ofNat a)), (2, .int (Int32.ofNat b)), (3, .int (Int32.ofNat 0)), (4, .int (v4_2)), (5, .int (v))]) (pc := 50) (gd gk_19 25 rfl) (by rw [gL_19]; decide) (fun _ => rfl) (fun v5_2 hv5_2 => ?_)
      obtain rfl : v5_2 = Int32.ofNat 0 := hv5_2.trans (by first | rfl | (simp only [Int32.ofNat_add, Int32.ofNat_mul]; rfl) | (simp only [Int32.ofNat_add, Int32.ofNat_mul]))
      -- end 2: stop, pc 52, locals [(0, .ref (85)), (1, .int (Int32.ofNat a)), (2, .int (Int32.ofNat b)), (3, .int (Int32.ofNat 0)), (4, .int (v4_2)), (5, .int (Int32.ofNat 0))]
      exact glp L 0 (by omega) _ _ (by show _ = x1; rw [← hx1, if_neg (by omega)]; rfl) (by show _ = x2; rw [hv4_2, ← hx2, if_pos (by omega)]; rfl)
  · replace c8 : ¬ (L ≤ a) := fun q9 => c8 ((zle (k := L) (m := a) (by omega) (by omega)).mpr q9)
    refine gs_aload_n (pc := 11) (gd gk_19 5 rfl) rfl ?_
    refine gs_getR (r := 6) (pc := 12) (gd gk_19 6 rfl) rfl rfl rfl (by decide) ?_
    refine gs_getI (pc := 15) (gd gk_19 7 rfl) rfl rfl ?_
    refine gs_ineg (pc := 18) (gd gk_19 8 rfl) ?_
    refine gs_goto (pc := 19) (gd gk_19 9 rfl) ?_
    refine gs_istore_n (ls2 := fun v => [(0, .ref (85)), (1, .int (Int32.ofNat a)), (2, .int (Int32.ofNat b)), (3, .int (v))]) (pc := 23) (gd gk_19 11 rfl) (by rw [gL_19]; decide) (fun _ => rfl) (fun v3_2 hv3_2 => ?_)
    refine gs_iload_n (pc := 24) (gd gk_19 12 rfl) rfl ?_
    refine gs_aload_n (pc := 25) (gd gk_19 13 rfl) rfl ?_
    refine gs_getR (r := 57) (pc := 26) (gd gk_19 14 rfl) rfl rfl rfl (by decide) ?_
    refine gs_getI (pc := 29) (gd gk_19 15 rfl) rfl rfl ?_
    refine gs_as (Int32.ofNat L) (hL) ?_
    refine gs_icmp_ge (pc := 32) (gd gk_19 16 rfl) (fun c32 => ?_) (fun c32 => ?_)
    · replace c32 : L ≤ b := (zle (k := L) (m := b) (by omega) (by omega)).mp c32
      refine gs_iconst (pc := 46) (gd gk_19 22 rfl) (0) rfl ?_
      refine gs_istore (ls2 := fun v => [(0, .ref (85)), (1, .int (Int32.ofNat a)), (2, .int (Int32.ofNat b)), (3, .int (v3_2)), (4, .int (v))]) (pc := 47) (gd gk_19 23 rfl) (by rw [gL_19]; decide) (fun _ => rfl) (fun v4_3 hv4_3 => ?_)
      obtain rfl : v4_3 = Int32.ofNat 0 := hv4_3.trans (by first | rfl | (simp only [Int32.ofNat_add, Int32.ofNat_mul]; rfl) | (simp only [Int32.ofNat_add, Int32.ofNat_mul]))
      refine gs_iconst (pc := 49) (gd gk_19 24 rfl) (0) rfl ?_
      refine gs_istore (ls2 := fun v => [(0, .ref (85)), (1, .int (Int32.ofNat a)), (2, .int (Int32.ofNat b)), (3, .int (v3_2)), (4, .int (Int32.ofNat 0)), (5, .int (v))]) (pc := 50) (gd gk_19 25 rfl) (by rw [gL_19]; decide) (fun _ => rfl) (fun v5_3 hv5_3 => ?_)
      obtain rfl : v5_3 = Int32.ofNat 0 := hv5_3.trans (by first | rfl | (simp only [Int32.ofNat_add, Int32.ofNat_mul]; rfl) | (simp only [Int32.ofNat_add, Int32.ofNat_mul]))
      -- end 3: stop, pc 52, locals [(0, .ref (85)), (1, .int (Int32.ofNat a)), (2, .int (Int32.ofNat b)), (3, .int (v3_2)), (4, .int (Int32.ofNat 0)), (5, .int (Int32.ofNat 0))]
      exact glp L 0 (by omega) _ _ (by show _ = x1; rw [hv3_2, ← hx1, if_pos (by omega)]; rfl) (by show _ = x2; rw [← hx2, if_neg (by omega)]; rfl)
    · replace c32 : ¬ (L ≤ b) := fun q9 => c32 ((zle (k := L) (m := b) (by omega) (by omega)).mpr q9)
      refine gs_aload_n (pc := 35) (gd gk_19 17 rfl) rfl ?_
      refine gs_getR (r := 6) (pc := 36) (gd gk_19 18 rfl) rfl rfl rfl (by decide) ?_
      refine gs_getI (pc := 39) (gd gk_19 19 rfl) rfl rfl ?_
      refine gs_ineg (pc := 42) (gd gk_19 20 rfl) ?_
      refine gs_goto (pc := 43) (gd gk_19 21 rfl) ?_
      refine gs_istore (ls2 := fun v => [(0, .ref (85)), (1, .int (Int32.ofNat a)), (2, .int (Int32.ofNat b)), (3, .int (v3_2)), (4, .int (v))]) (pc := 47) (gd gk_19 23 rfl) (by rw [gL_19]; decide) (fun _ => rfl) (fun v4_4 hv4_4 => ?_)
      refine gs_iconst (pc := 49) (gd gk_19 24 rfl) (0) rfl ?_
      refine gs_istore (ls2 := fun v => [(0, .ref (85)), (1, .int (Int32.ofNat a)), (2, .int (Int32.ofNat b)), (3, .int (v3_2)), (4, .int (v4_4)), (5, .int (v))]) (pc := 50) (gd gk_19 25 rfl) (by rw [gL_19]; decide) (fun _ => rfl) (fun v5_4 hv5_4 => ?_)
      obtain rfl : v5_4 = Int32.ofNat 0 := hv5_4.trans (by first | rfl | (simp only [Int32.ofNat_add, Int32.ofNat_mul]; rfl) | (simp only [Int32.ofNat_add, Int32.ofNat_mul]))
      -- end 4: stop, pc 52, locals [(0, .ref (85)), (1, .int (Int32.ofNat a)), (2, .int (Int32.ofNat b)), (3, .int (v3_2)), (4, .int (v4_4)), (5, .int (Int32.ofNat 0))]
      exact glp L 0 (by omega) _ _ (by show _ = x1; rw [hv3_2, ← hx1, if_pos (by omega)]; rfl) (by show _ = x2; rw [hv4_4, ← hx2, if_pos (by omega)]; rfl)
end
