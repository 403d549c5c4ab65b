/-! ===== two bakers: meet, bakers; the class ===== -/
def gq_F1 (σ : Nat → Nat → Int32) (N h0 L bc c2 : Nat) (ch : Int32) (s0 : Nat → Int32) (a b : Nat) : Int32 := gq_f1 σ N h0 (gq_fs σ h0 bc ch s0 a) (gq_fs σ h0 c2 ch (fun _ => 0) b) (if a < L then -σ 0 2 else 0) L
def gq_F2 (σ : Nat → Nat → Int32) (N h0 L bc c2 : Nat) (ch : Int32) (s0 : Nat → Int32) (a b : Nat) : Int32 := gq_f2 σ N h0 (gq_fs σ h0 bc ch s0 a) (gq_fs σ h0 c2 ch (fun _ => 0) b) (if b < L then -σ 0 2 else 0) L
/-- how many pairs are at rest, and the first -/
def gq_bk (σ : Nat → Nat → Int32) (N h0 L bc c2 : Nat) (ch : Int32) (s0 : Nat → Int32) : Nat × Int32 := gq_ct (gq_R (gq_F1 σ N h0 L bc c2 ch s0) (gq_F2 σ N h0 L bc c2 ch s0) h0 L) (gq_uto h0 L (L + 1))
def gq_ba (σ : Nat → Nat → Int32) (N h0 L bc : Nat) (ch : Int32) (s0 : Nat → Int32) (c x : Int32) : Int32 := if gz_rg c 0 9 && gz_rg x 0 1 then (if x = 0 then Int32.ofNat (gq_bk σ N h0 L bc c.toNatClampNeg ch s0).1 else (gq_bk σ N h0 L bc c.toNatClampNeg ch s0).2) else -2
theorem gq_fs_c {σ : Nat → Nat → Int32} {h0 bc : Nat} {ch : Int32} {s t : Nat → Int32} {a g m : Nat} (h : ∀ c, c < 10 → s c = t c) (hm : 0 ≤ σ 2 m ∧ σ 2 m ≤ 9) : gq_fs σ h0 bc ch s a g m = gq_fs σ h0 bc ch t a g m := by
  unfold gq_fs
  exact gq_sq_c h (g + 1) _ (by have := (zle_l hm.1 (n := 9) (by decide)).mp hm.2; omega)
section
variable {V : gw_V} {n W N h0 L bc c2 : Nat} {I : Nat → Nat → Int32} {J : Nat → Nat → Int64}
abbrev cq_mt (n : Nat) (I : Nat → Nat → Int32) (J : Nat → Nat → Int64) (N h0 L bc c2 : Nat) : Option Value → gw_W → Prop := fun v w' => v = none ∧ ∃ I2, w' = gS n I2 J ∧ gq_qf I I2 ∧ I2 85 6 = Int32.ofNat (gq_bk (gz_S I) N h0 L bc c2 (I 12 1) (I 13)).1 ∧ I2 85 7 = (gq_bk (gz_S I) N h0 L bc c2 (I 12 1) (I 13)).2
theorem c_meet (hn : gq_now I W N h0 L bc) (hc2 : c2 < 10) (h141 : I 14 1 = I 12 1) (h143 : I 14 3 = Int32.ofNat h0) (h15 : ∀ c, c < 10 → I 15 c = 0) : gw_E V 17 (0, [(0, .ref 85), (1, .ref 12), (2, .ref 14), (3, .int (Int32.ofNat c2))], [], gS n I J, 0, 0) (cq_mt n I J N h0 L bc c2) := by
  obtain ⟨hok, hh, hW, hbc, hb9, h78, h79, h69⟩ := id hn
  have hW8 : W ≤ 8 := hok.2.1
  have main : ∀ Ig, gq_on Ig W N h0 L c2 → (∀ p, ¬ (57 ≤ p ∧ p ≤ 125) → Ig p = I p) → Ig 78 0 = I 78 0 → Ig 79 0 = I 79 0 → Ig 69 = I 69 → (∀ a, a ≤ L → ∀ g, g < L → ∀ m, m < N → Ig (87 + a) (g * 6 + m) = gq_fs (gz_S I) h0 bc (I 12 1) (I 13) a g m) → (∀ a, a ≤ L → ∀ g, g < L → ∀ m, m < N → Ig (97 + a) (g * 6 + m) = gq_fs (gz_S I) h0 c2 (I 12 1) (fun _ => 0) a g m) → gw_E V 17 (26, [(0, .ref 85), (1, .ref 12), (2, .ref 14), (3, .int (Int32.ofNat c2))], [], gS n Ig J, 0, 0) (cq_mt n I J N h0 L bc c2) := by
    intro Ig z1 z2 z3 z4 z5 z6 z7
    have hSg : gz_S Ig = gz_S I := gz_S_eq (fun p q1 q2 => z2 p (by omega))
    generalize hF : gq_F1 (gz_S I) N h0 L bc c2 (I 12 1) (I 13) = F
    generalize hG : gq_F2 (gz_S I) N h0 L bc c2 (I 12 1) (I 13) = G
    have lp : ∀ (r a : Nat), r + a = L + 1 → ∀ I1, (∀ p, ¬ (107 ≤ p ∧ p ≤ 125) → I1 p = Ig p) → (∀ c, c < a → ∀ d, d ≤ L → I1 (107 + c) d = F c d ∧ I1 (117 + c) d = G c d) → gw_E V 17 (29, [(0, .ref 85), (1, .ref 12), (2, .ref 14), (3, .int (Int32.ofNat c2)), (4, .int (Int32.ofNat a))], [], gS n I1 J, 0, 0) (cq_mt n I J N h0 L bc c2) := by
      intro r
      induction r with
      | zero =>
        intro a ha I1 g1 g2
        obtain rfl : a = L + 1 := by omega
        have hL1 : I1 57 12 = Int32.ofNat L := by rw [g1 57 (by omega)]; exact z1.2.2.1
        have hh1 : I1 57 11 = Int32.ofNat h0 := by rw [g1 57 (by omega)]; exact z1.2.1
        refine gs_iload (pc := 29) (gd gk_17 16 rfl) rfl ?_
        refine gs_aload_n (pc := 31) (gd gk_17 17 rfl) rfl ?_
        refine gs_getR (r := 57) (pc := 32) (gd gk_17 18 rfl) rfl rfl rfl (by decide) ?_
        refine gs_getI (pc := 35) (gd gk_17 19 rfl) rfl rfl ?_
        refine gs_as (Int32.ofNat L) (hL1) ?_
        refine gs_icmp_gt (pc := 38) (gd gk_17 20 rfl) (fun c38 => ?_) (fun c38 => ?_)
        · replace c38 : L < (L + 1) := (zlt (k := L) (m := (L + 1)) (by omega) (by omega)).mp c38
          refine gs_aload_n (pc := 76) (gd gk_17 36 rfl) rfl ?_
          refine gs_callV (as := []) (pc := 77) (gd gk_17 37 rfl) (by decide) rfl (by decide) rfl rfl (Nat.le_of_ble_eq_true rfl) gq_17_20 (Nat.le_of_ble_eq_true rfl) (c_findRest (h0 := h0) (L := L) (by omega) hh1 hL1) (fun r_77 w_77 q_77 => ?_)
          obtain ⟨rfl, I_r, rfl, r1, r2, r3⟩ := q_77
          -- end 1: return, pc 80, locals [(0, .ref (85)), (1, .ref (12)), (2, .ref (14)), (3, .int (Int32.ofNat c2)), (4, .int (Int32.ofNat (L + 1)))]
          have e : gq_R (gq_Fi I1) (gq_Gi I1) h0 L = gq_R F G h0 L := gq_R_c (fun c hc d hd => (g2 c (by omega) d hd).1) (fun c hc d hd => (g2 c (by omega) d hd).2)
          rw [e] at r1 r2
          have o : ∀ p, p ≠ 85 → ¬ (107 ≤ p ∧ p ≤ 125) → I_r p = Ig p := fun p q1 q2 => by rw [r3 p q1, g1 p q2]
          exact gs_ret (pc := 80) (gd gk_17 38 rfl) rfl (Nat.zero_le _) (Nat.zero_le _) (⟨rfl, I_r, rfl, ⟨fun p q1 _ _ => by rw [o p (by omega) (by omega)]; exact z2 p q1, by rw [o 78 (by omega) (by omega)]; exact z3, by rw [o 79 (by omega) (by omega)]; exact z4, by rw [o 69 (by omega) (by omega)]; exact z5⟩, by unfold gq_bk; rw [hF, hG]; exact r1, by unfold gq_bk; rw [hF, hG]; exact r2⟩)
        · replace c38 : ¬ (L < (L + 1)) := fun q9 => c38 ((zlt (k := L) (m := (L + 1)) (by omega) (by omega)).mpr q9)
          -- end 2: stop, pc 41, locals [(0, .ref (85)), (1, .ref (12)), (2, .ref (14)), (3, .int (Int32.ofNat c2)), (4, .int (Int32.ofNat (L + 1)))]
          exact absurd (Nat.lt_succ_self L) c38
      | succ r ih =>
        intro a ha I1 g1 g2
        have inner : ∀ (r2 b : Nat), r2 + b = L + 1 → ∀ I2, (∀ p, ¬ (107 ≤ p ∧ p ≤ 125) → I2 p = Ig p) → (∀ c, c < a → ∀ d, d ≤ L → I2 (107 + c) d = F c d ∧ I2 (117 + c) d = G c d) → (∀ d, d < b → I2 (107 + a) d = F a d ∧ I2 (117 + a) d = G a d) → gw_E V 17 (44, [(0, .ref 85), (1, .ref 12), (2, .ref 14), (3, .int (Int32.ofNat c2)), (4, .int (Int32.ofNat a)), (5, .int (Int32.ofNat b))], [], gS n I2 J, 0, 0) (cq_mt n I J N h0 L bc c2) := by
          intro r2
          induction r2 with
          | zero =>
            intro b hb I2 d1 d2 d3
            obtain rfl : b = L + 1 := by omega
            have hL2 : I2 57 12 = Int32.ofNat L := by rw [d1 57 (by omega)]; exact z1.2.2.1
            refine gs_iload (pc := 44) (gd gk_17 23 rfl) rfl ?_
            refine gs_aload_n (pc := 46) (gd gk_17 24 rfl) rfl ?_
            refine gs_getR (r := 57) (pc := 47) (gd gk_17 25 rfl) rfl rfl rfl (by decide) ?_
            refine gs_getI (pc := 50) (gd gk_17 26 rfl) rfl rfl ?_
            refine gs_as (Int32.ofNat L) (hL2) ?_
            refine gs_icmp_gt (pc := 53) (gd gk_17 27 rfl) (fun c53 => ?_) (fun c53 => ?_)
            · replace c53 : L < (L + 1) := (zlt (k := L) (m := (L + 1)) (by omega) (by omega)).mp c53
              refine gs_iinc (ls2 := fun v => [(0, .ref (85)), (1, .ref (12)), (2, .ref (14)), (3, .int (Int32.ofNat c2)), (4, .int (v)), (5, .int (Int32.ofNat (L + 1)))]) (pc := 70) (gd gk_17 34 rfl) rfl (by rw [gL_17]; decide) (fun _ => rfl) (1) rfl (fun v4_1 hv4_1 => ?_)
              obtain rfl : v4_1 = Int32.ofNat (a + 1) := hv4_1.trans (by first | rfl | (simp only [Int32.ofNat_add, Int32.ofNat_mul]; rfl) | (simp only [Int32.ofNat_add, Int32.ofNat_mul]))
              refine gs_goto (pc := 73) (gd gk_17 35 rfl) ?_
              -- end 1: stop, pc 29, locals [(0, .ref (85)), (1, .ref (12)), (2, .ref (14)), (3, .int (Int32.ofNat c2)), (4, .int (Int32.ofNat (a + 1))), (5, .int (Int32.ofNat (L + 1)))]
              refine gs_drop [0, 1, 2, 3, 4] rfl (ih (a + 1) (by omega) I2 d1 (fun c hc d hd => ?_))
              by_cases e : c = a
              · rw [e]; exact d3 d (by omega)
              · exact d2 c (by omega) d hd
            · replace c53 : ¬ (L < (L + 1)) := fun q9 => c53 ((zlt (k := L) (m := (L + 1)) (by omega) (by omega)).mpr q9)
              -- end 2: stop, pc 56, locals [(0, .ref (85)), (1, .ref (12)), (2, .ref (14)), (3, .int (Int32.ofNat c2)), (4, .int (Int32.ofNat a)), (5, .int (Int32.ofNat (L + 1)))]
              exact absurd (Nat.lt_succ_self L) c53
          | succ r2 ih2 =>
            intro b hb I2 d1 d2 d3
            have hL2 : I2 57 12 = Int32.ofNat L := by rw [d1 57 (by omega)]; exact z1.2.2.1
            have hh2 : I2 57 11 = Int32.ofNat h0 := by rw [d1 57 (by omega)]; exact z1.2.1
            have hS2 : gz_S I2 = gz_S I := (gz_S_eq (fun p q1 q2 => d1 p (by omega))).trans hSg
            refine gs_iload (pc := 44) (gd gk_17 23 rfl) rfl ?_
            refine gs_aload_n (pc := 46) (gd gk_17 24 rfl) rfl ?_
            refine gs_getR (r := 57) (pc := 47) (gd gk_17 25 rfl) rfl rfl rfl (by decide) ?_
            refine gs_getI (pc := 50) (gd gk_17 26 rfl) rfl rfl ?_
            refine gs_as (Int32.ofNat L) (hL2) ?_
            refine gs_icmp_gt (pc := 53) (gd gk_17 27 rfl) (fun c53 => ?_) (fun c53 => ?_)
            · replace c53 : L < b := (zlt (k := L) (m := b) (by omega) (by omega)).mp c53
              -- end 1: stop, pc 70, locals [(0, .ref (85)), (1, .ref (12)), (2, .ref (14)), (3, .int (Int32.ofNat c2)), (4, .int (Int32.ofNat a)), (5, .int (Int32.ofNat b))]
              exact absurd c53 (by omega)
            · replace c53 : ¬ (L < b) := fun q9 => c53 ((zlt (k := L) (m := b) (by omega) (by omega)).mpr q9)
              refine gs_aload_n (pc := 56) (gd gk_17 28 rfl) rfl ?_
              refine gs_iload (pc := 57) (gd gk_17 29 rfl) rfl ?_
              refine gs_iload (pc := 59) (gd gk_17 30 rfl) rfl ?_
              refine gs_callV (as := [.int (Int32.ofNat a), .int (Int32.ofNat b)]) (pc := 61) (gd gk_17 31 rfl) (by decide) rfl (by decide) rfl rfl (Nat.le_of_ble_eq_true rfl) gq_17_19 (Nat.le_of_ble_eq_true rfl) (c_divide (W := W) (gq_fs (gz_S I) h0 bc (I 12 1) (I 13) a) (gq_fs (gz_S I) h0 c2 (I 12 1) (fun _ => 0) b) a b (by omega) (by omega) (by rw [hS2]; exact hok) hW hh2 hL2 (fun g hg m hm => by rw [d1 _ (by omega)]; exact z6 a (by omega) g hg m hm) (fun g hg m hm => by rw [d1 _ (by omega)]; exact z7 b (by omega) g hg m hm)) (fun r_61 w_61 q_61 => ?_)
              obtain ⟨rfl, I_d, rfl, e1, e2, e3⟩ := q_61
              rw [hS2] at e1 e2
              refine gs_iinc (ls2 := fun v => [(0, .ref (85)), (1, .ref (12)), (2, .ref (14)), (3, .int (Int32.ofNat c2)), (4, .int (Int32.ofNat a)), (5, .int (v))]) (pc := 64) (gd gk_17 32 rfl) rfl (by rw [gL_17]; decide) (fun _ => rfl) (1) rfl (fun v5_1 hv5_1 => ?_)
              obtain rfl : v5_1 = Int32.ofNat (b + 1) := hv5_1.trans (by first | rfl | (simp only [Int32.ofNat_add, Int32.ofNat_mul]; rfl) | (simp only [Int32.ofNat_add, Int32.ofNat_mul]))
              refine gs_goto (pc := 67) (gd gk_17 33 rfl) ?_
              -- end 2: stop, pc 44, locals [(0, .ref (85)), (1, .ref (12)), (2, .ref (14)), (3, .int (Int32.ofNat c2)), (4, .int (Int32.ofNat a)), (5, .int (Int32.ofNat (b + 1)))]
              refine ih2 (b + 1) (by omega) I_d (fun p hp => by rw [← d1 p hp]; funext q; exact e3 p q (by omega) (by omega)) (fun c hc d hd => ?_) (fun d hd => ?_)
              · rw [e3 _ _ (by omega) (by omega), e3 _ _ (by omega) (by omega)]; exact d2 c hc d hd
              · by_cases e : d = b
                · rw [e, ← hF, ← hG]; exact ⟨e1, e2⟩
                · rw [e3 _ _ (by omega) (by omega), e3 _ _ (by omega) (by omega)]; exact d3 d (by omega)
        have hL1 : I1 57 12 = Int32.ofNat L := by rw [g1 57 (by omega)]; exact z1.2.2.1
        refine gs_iload (pc := 29) (gd gk_17 16 rfl) rfl ?_
        refine gs_aload_n (pc := 31) (gd gk_17 17 rfl) rfl ?_
        refine gs_getR (r := 57) (pc := 32) (gd gk_17 18 rfl) rfl rfl rfl (by decide) ?_
        refine gs_getI (pc := 35) (gd gk_17 19 rfl) rfl rfl ?_
        refine gs_as (Int32.ofNat L) (hL1) ?_
        refine gs_icmp_gt (pc := 38) (gd gk_17 20 rfl) (fun c38 => ?_) (fun c38 => ?_)
        · replace c38 : L < a := (zlt (k := L) (m := a) (by omega) (by omega)).mp c38
          -- end 1: stop, pc 76, locals [(0, .ref (85)), (1, .ref (12)), (2, .ref (14)), (3, .int (Int32.ofNat c2)), (4, .int (Int32.ofNat a))]
          exact absurd c38 (by omega)
        · replace c38 : ¬ (L < a) := fun q9 => c38 ((zlt (k := L) (m := a) (by omega) (by omega)).mpr q9)
          refine gs_iconst (pc := 41) (gd gk_17 21 rfl) (0) rfl ?_
          refine gs_istore (ls2 := fun v => [(0, .ref (85)), (1, .ref (12)), (2, .ref (14)), (3, .int (Int32.ofNat c2)), (4, .int (Int32.ofNat a)), (5, .int (v))]) (pc := 42) (gd gk_17 22 rfl) (by rw [gL_17]; decide) (fun _ => rfl) (fun v5_1 hv5_1 => ?_)
          obtain rfl : v5_1 = Int32.ofNat 0 := hv5_1.trans (by first | rfl | (simp only [Int32.ofNat_add, Int32.ofNat_mul]; rfl) | (simp only [Int32.ofNat_add, Int32.ofNat_mul]))
          -- end 2: stop, pc 44, locals [(0, .ref (85)), (1, .ref (12)), (2, .ref (14)), (3, .int (Int32.ofNat c2)), (4, .int (Int32.ofNat a)), (5, .int (Int32.ofNat 0))]
          exact inner (L + 1) 0 (by omega) I1 g1 g2 (fun d hd => absurd hd (Nat.not_lt_zero _))
    refine gs_iconst (pc := 26) (gd gk_17 14 rfl) (0) rfl ?_
    refine gs_istore (ls2 := fun v => [(0, .ref (85)), (1, .ref (12)), (2, .ref (14)), (3, .int (Int32.ofNat c2)), (4, .int (v))]) (pc := 27) (gd gk_17 15 rfl) (by rw [gL_17]; decide) (fun _ => rfl) (fun v4_1 hv4_1 => ?_)
    obtain rfl : v4_1 = Int32.ofNat 0 := hv4_1.trans (by first | rfl | (simp only [Int32.ofNat_add, Int32.ofNat_mul]; rfl) | (simp only [Int32.ofNat_add, Int32.ofNat_mul]))
    -- end 1: stop, pc 29, locals [(0, .ref (85)), (1, .ref (12)), (2, .ref (14)), (3, .int (Int32.ofNat c2)), (4, .int (Int32.ofNat 0))]
    exact lp (L + 1) 0 (by omega) Ig (fun _ _ => rfl) (fun c hc => absurd hc (Nat.not_lt_zero _))
  refine gs_aload_n (pc := 0) (gd gk_17 0 rfl) rfl ?_
  refine gs_aload_n (pc := 1) (gd gk_17 1 rfl) rfl ?_
  refine gs_aload_n (pc := 2) (gd gk_17 2 rfl) rfl ?_
  refine gs_getR (r := 6) (pc := 3) (gd gk_17 3 rfl) rfl rfl rfl (by decide) ?_
  refine gs_getI (pc := 6) (gd gk_17 4 rfl) rfl rfl ?_
  refine gs_as (Int32.ofNat bc) (hbc) ?_
  refine gs_aload_n (pc := 9) (gd gk_17 5 rfl) rfl ?_
  refine gs_getR (r := 86) (pc := 10) (gd gk_17 6 rfl) rfl rfl rfl (by decide) ?_
  refine gs_callV (as := [.ref (12), .int (Int32.ofNat bc), .ref (86)]) (pc := 13) (gd gk_17 7 rfl) (by decide) rfl (by decide) rfl rfl (Nat.le_of_ble_eq_true rfl) gq_17_18 (Nat.le_of_ble_eq_true rfl) (c_follow_12 hok hh hW hb9 h78 h79 h69) (fun r_13 w_13 q_13 => ?_)
  obtain ⟨rfl, I_f, rfl, f1, f2, f3⟩ := q_13
  have hSf : gz_S I_f = gz_S I := gz_S_eq (fun p q1 q2 => f1.1 p (by omega) (by omega))
  have h14f : I_f 14 = I 14 := f1.1 14 (by omega) (by omega)
  have h15f : I_f 15 = I 15 := f1.1 15 (by omega) (by omega)
  refine gs_aload_n (pc := 16) (gd gk_17 8 rfl) rfl ?_
  refine gs_aload_n (pc := 17) (gd gk_17 9 rfl) rfl ?_
  refine gs_iload_n (pc := 18) (gd gk_17 10 rfl) rfl ?_
  refine gs_aload_n (pc := 19) (gd gk_17 11 rfl) rfl ?_
  refine gs_getR (r := 96) (pc := 20) (gd gk_17 12 rfl) rfl rfl rfl (by decide) ?_
  refine gs_callV (as := [.ref (14), .int (Int32.ofNat c2), .ref (96)]) (pc := 23) (gd gk_17 13 rfl) (by decide) rfl (by decide) rfl rfl (Nat.le_of_ble_eq_true rfl) gq_17_18 (Nat.le_of_ble_eq_true rfl) (c_follow_14 (W := W) (N := N) (h0 := h0) (L := L) (bc := c2) (by rw [hSf]; exact hok) (by rw [h14f]; exact h143) hW hc2 (by rw [f1.2.1]; exact h78) (by rw [f1.2.2.1]; exact h79) (by rw [f1.2.2.2]; exact h69)) (fun r_23 w_23 q_23 => ?_)
  obtain ⟨rfl, I_g, rfl, k1, k2, k3⟩ := q_23
  -- end 1: stop, pc 26, locals [(0, .ref (85)), (1, .ref (12)), (2, .ref (14)), (3, .int (Int32.ofNat c2))]
  refine main I_g k2 (fun p hp => by rw [k1.1 p (by omega) (by omega), f1.1 p (by omega) (by omega)]) (k1.2.1.trans f1.2.1) (k1.2.2.1.trans f1.2.2.1) (k1.2.2.2.trans f1.2.2.2) (fun a ha g hg m hm => by rw [k1.1 _ (by omega) (by omega)]; exact f3 a ha g hg m hm) (fun a ha g hg m hm => ?_)
  rw [k3 a ha g hg m hm, hSf, h14f, h15f, h141]
  exact gq_fs_c h15 (gq_ok_n hok m hm)
theorem c_bakers (c x : Int32) (hn : gq_now I W N h0 L bc) : gw_E V 87 (0, [(0, .ref 3), (1, .int c), (2, .int x)], [], gS n I J, 0, 0) (fun v w' => v = some (.int (gq_ba (gz_S I) N h0 L bc (I 12 1) (I 13) c x)) ∧ ∃ I2, w' = gS n I2 J ∧ gq_qf I I2) := by
  by_cases hc : 0 ≤ c ∧ c ≤ 9
  · obtain ⟨c2, rfl, hc9⟩ := zto (b := 9) (by decide) hc
    have hr1 : gz_rg (Int32.ofNat c2) 0 9 = true := gz_rg_t.mpr hc
    refine gs_iload_n (pc := 0) (gd gk_87 0 rfl) rfl ?_
    refine gs_callS (as := [.int (Int32.ofNat c2)]) (pc := 1) (gd gk_87 1 rfl) (by decide) rfl rfl (Nat.le_of_ble_eq_true rfl) gq_87_93 (Nat.le_of_ble_eq_true rfl) (c_cell (Int32.ofNat c2)) (fun r_1 w_1 q_1 => ?_)
    obtain ⟨rfl, rfl⟩ := q_1
    refine gs_if_eq (pc := 4) (gd gk_87 2 rfl) (fun c4 => ?_) (fun c4 => ?_)
    · refine gs_bipush (pc := 16) (gd gk_87 8 rfl) (-2) rfl ?_
      -- end 1: ireturn (-2), pc 18, locals [(0, .ref (3)), (1, .int (Int32.ofNat c2)), (2, .int (x))]
      rw [hr1] at c4
      exact absurd c4 (by decide)
    · refine gs_iload_n (pc := 7) (gd gk_87 3 rfl) rfl ?_
      refine gs_if_lt (pc := 8) (gd gk_87 4 rfl) (fun c8 => ?_) (fun c8 => ?_)
      · refine gs_bipush (pc := 16) (gd gk_87 8 rfl) (-2) rfl ?_
        -- end 2: ireturn (-2), pc 18, locals [(0, .ref (3)), (1, .int (Int32.ofNat c2)), (2, .int (x))]
        exact gs_iret (pc := 18) (gd gk_87 9 rfl) rfl (rfl) (Nat.zero_le _) (Nat.zero_le _) (⟨by unfold gq_ba; rw [gz_rg_f.mpr (fun q => absurd c8 (Int32.not_lt.mpr q.1)), Bool.and_false]; rfl, I, rfl, ⟨fun _ _ _ _ => rfl, rfl, rfl, rfl⟩⟩)
      · refine gs_iload_n (pc := 11) (gd gk_87 5 rfl) rfl ?_
        refine gs_iconst (pc := 12) (gd gk_87 6 rfl) (1) rfl ?_
        refine gs_icmp_le (pc := 13) (gd gk_87 7 rfl) (fun c13 => ?_) (fun c13 => ?_)
        · refine gs_aload_n (pc := 19) (gd gk_87 10 rfl) rfl ?_
          refine gs_getR (r := 14) (pc := 20) (gd gk_87 11 rfl) rfl rfl rfl (by decide) ?_
          refine gs_aload_n (pc := 23) (gd gk_87 12 rfl) rfl ?_
          refine gs_getR (r := 12) (pc := 24) (gd gk_87 13 rfl) rfl rfl rfl (by decide) ?_
          refine gs_callV (as := [.ref (12)]) (pc := 27) (gd gk_87 14 rfl) (by decide) rfl (by decide) rfl rfl (Nat.le_of_ble_eq_true rfl) gq_87_15 (Nat.le_of_ble_eq_true rfl) (c_copy 14 12 gz_mo_14 gz_mo_12 (by omega) (by omega) (by omega)) (fun r_27 w_27 q_27 => ?_)
          obtain ⟨rfl, I_c, rfl, k1, k2, k3, k4, k5⟩ := q_27
          refine gs_aload_n (pc := 30) (gd gk_87 15 rfl) rfl ?_
          refine gs_getR (r := 14) (pc := 31) (gd gk_87 16 rfl) rfl rfl rfl (by decide) ?_
          refine gs_callV (as := []) (pc := 34) (gd gk_87 17 rfl) (by decide) rfl (by decide) rfl rfl (Nat.le_of_ble_eq_true rfl) gq_87_14 (Nat.le_of_ble_eq_true rfl) (c_clear_14) (fun r_34 w_34 q_34 => ?_)
          obtain ⟨rfl, I_k, rfl, l1, l2⟩ := q_34
          have qk : gq_qf I I_k := ⟨fun p _ q2 q3 => by rw [l2 p q3, k5 p q2 q3], by rw [l2 78 (by omega), k5 78 (by omega) (by omega)], by rw [l2 79 (by omega), k5 79 (by omega) (by omega)], by rw [l2 69 (by omega), k5 69 (by omega) (by omega)]⟩
          have h12k : I_k 12 = I 12 := by rw [l2 12 (by omega), k5 12 (by omega) (by omega)]
          have h13k : I_k 13 = I 13 := by rw [l2 13 (by omega), k5 13 (by omega) (by omega)]
          have h14k : I_k 14 = I_c 14 := l2 14 (by omega)
          refine gs_aload_n (pc := 37) (gd gk_87 18 rfl) rfl ?_
          refine gs_getR (r := 85) (pc := 38) (gd gk_87 19 rfl) rfl rfl rfl (by decide) ?_
          refine gs_aload_n (pc := 41) (gd gk_87 20 rfl) rfl ?_
          refine gs_getR (r := 12) (pc := 42) (gd gk_87 21 rfl) rfl rfl rfl (by decide) ?_
          refine gs_aload_n (pc := 45) (gd gk_87 22 rfl) rfl ?_
          refine gs_getR (r := 14) (pc := 46) (gd gk_87 23 rfl) rfl rfl rfl (by decide) ?_
          refine gs_iload_n (pc := 49) (gd gk_87 24 rfl) rfl ?_
          refine gs_callV (as := [.ref (12), .ref (14), .int (Int32.ofNat c2)]) (pc := 50) (gd gk_87 25 rfl) (by decide) rfl (by decide) rfl rfl (Nat.le_of_ble_eq_true rfl) gq_87_17 (Nat.le_of_ble_eq_true rfl) (c_meet (c2 := c2) (gq_now_qf qk hn) (by omega) (by rw [h14k, h12k]; exact k2) (by rw [h14k, k4]; exact hn.2.1) l1) (fun r_50 w_50 q_50 => ?_)
          obtain ⟨rfl, I_m, rfl, m1, m2, m3⟩ := q_50
          rw [gq_qf_S qk, h12k, h13k] at m2 m3
          refine gs_iload_n (pc := 53) (gd gk_87 26 rfl) rfl ?_
          refine gs_if_ne (pc := 54) (gd gk_87 27 rfl) (fun c54 => ?_) (fun c54 => ?_)
          · refine gs_aload_n (pc := 67) (gd gk_87 32 rfl) rfl ?_
            refine gs_getR (r := 85) (pc := 68) (gd gk_87 33 rfl) rfl rfl rfl (by decide) ?_
            refine gs_getI (pc := 71) (gd gk_87 34 rfl) rfl rfl ?_
            -- end 3: ireturn (I_m 85 7), pc 74, locals [(0, .ref (3)), (1, .int (Int32.ofNat c2)), (2, .int (x))]
            exact gs_iret (pc := 74) (gd gk_87 35 rfl) rfl (rfl) (Nat.zero_le _) (Nat.zero_le _) (⟨by unfold gq_ba; rw [hr1, gz_rg_t.mpr ⟨Int32.not_lt.mp c8, c13⟩, znn (by omega), m3]; show _ = some (Value.int (if x = 0 then _ else _)); rw [if_neg c54], I_m, rfl, gq_qf_tr qk m1⟩)
          · refine gs_aload_n (pc := 57) (gd gk_87 28 rfl) rfl ?_
            refine gs_getR (r := 85) (pc := 58) (gd gk_87 29 rfl) rfl rfl rfl (by decide) ?_
            refine gs_getI (pc := 61) (gd gk_87 30 rfl) rfl rfl ?_
            refine gs_goto (pc := 64) (gd gk_87 31 rfl) ?_
            -- end 4: ireturn (I_m 85 6), pc 74, locals [(0, .ref (3)), (1, .int (Int32.ofNat c2)), (2, .int (x))]
            exact gs_iret (pc := 74) (gd gk_87 35 rfl) rfl (rfl) (Nat.zero_le _) (Nat.zero_le _) (⟨by unfold gq_ba; rw [hr1, gz_rg_t.mpr ⟨Int32.not_lt.mp c8, c13⟩, znn (by omega), m2]; show _ = some (Value.int (if x = 0 then _ else _)); rw [if_pos c54], I_m, rfl, gq_qf_tr qk m1⟩)
        · refine gs_bipush (pc := 16) (gd gk_87 8 rfl) (-2) rfl ?_
          -- end 5: ireturn (-2), pc 18, locals [(0, .ref (3)), (1, .int (Int32.ofNat c2)), (2, .int (x))]
          exact gs_iret (pc := 18) (gd gk_87 9 rfl) rfl (rfl) (Nat.zero_le _) (Nat.zero_le _) (⟨by unfold gq_ba; rw [gz_rg_f.mpr (fun q => c13 q.2), Bool.and_false]; rfl, I, rfl, ⟨fun _ _ _ _ => rfl, rfl, rfl, rfl⟩⟩)
  · have hr1 : gz_rg c 0 9 = false := gz_rg_f.mpr hc
    refine gs_iload_n (pc := 0) (gd gk_87 0 rfl) rfl ?_
    refine gs_callS (as := [.int (c)]) (pc := 1) (gd gk_87 1 rfl) (by decide) rfl rfl (Nat.le_of_ble_eq_true rfl) gq_87_93 (Nat.le_of_ble_eq_true rfl) (c_cell (c)) (fun r_1 w_1 q_1 => ?_)
    obtain ⟨rfl, rfl⟩ := q_1
    refine gs_if_eq (pc := 4) (gd gk_87 2 rfl) (fun c4 => ?_) (fun c4 => ?_)
    · refine gs_bipush (pc := 16) (gd gk_87 8 rfl) (-2) rfl ?_
      -- end 1: ireturn (-2), pc 18, locals [(0, .ref (3)), (1, .int (c)), (2, .int (x))]
      exact gs_iret (pc := 18) (gd gk_87 9 rfl) rfl (rfl) (Nat.zero_le _) (Nat.zero_le _) (⟨by unfold gq_ba; rw [hr1]; rfl, I, rfl, ⟨fun _ _ _ _ => rfl, rfl, rfl, rfl⟩⟩)
    · -- end 2: stop, pc 7, locals [(0, .ref (3)), (1, .int (c)), (2, .int (x))]
      rw [hr1] at c4
      exact absurd rfl c4
end
