/-! ===== the reference: isSeen ===== -/
section
variable {V : gw_V} {n W N h0 L bc : Nat} {I : Nat → Nat → Int32} {J : Nat → Nat → Int64}
theorem gm_si_o {I I2 : Nat → Nat → Int32} {sz : Nat} {no ho : Nat → Nat} {hd : Nat → Bool} (h : gm_si I sz no ho hd) (e : gm_sf I I2) : gm_si I2 sz no ho hd := ⟨by rw [e.1 126 (by omega) (by omega)]; exact h.1, h.2.1, fun k hk => by rw [e.1 138 (by omega) (by omega), e.1 139 (by omega) (by omega), e.1 140 (by omega) (by omega)]; exact h.2.2 k hk⟩
theorem m_isSeen (p sz : Nat) (no ho : Nat → Nat) (hd : Nat → Bool) (hs : gm_si I sz no ho hd) (hok : gq_ok (gz_M I) W N) (hbc : I 126 0 = Int32.ofNat bc) (hb9 : bc < 10) (hb : ∀ h, h < 8 → I 128 h = I 127 h) : gw_E V 149 (0, [(0, .ref 126), (1, .int (Int32.ofNat p))], [], gS n I J, 0, 0) (mq_sn n I J (gq_sp (gz_M I) W N bc sz no ho hd p)) := by
  have hW8 : W ≤ 8 := hok.2.1
  have hW3 : I 126 3 = Int32.ofNat W := hok.1
  have lp2 : ∀ (m h : Nat), m + h = W → ∀ I1 (b : Bool), gm_sf I I1 → (∀ c, c < 10 → I1 133 (26 + c) = gq_sq (gz_M I) (gq_w0 (gz_M I) 0) (gq_p0 (Int32.ofNat p) 0) bc 0 (fun _ => 0) h c) → I1 133 36 = 0 → I1 133 38 = Int32.ofNat h → (b = true ↔ ∀ j, j < sz → ho j < h → no j < N → gq_A (gz_M I) bc 0 (fun _ => 0) p (ho j) (no j) = hd j) → gw_E V 149 (28, [(0, .ref 126), (1, .int (Int32.ofNat p)), (2, .int (gz_b b)), (3, .int (Int32.ofNat h))], [], gS n I1 J, 0, 0) (mq_sn n I J (gq_sp (gz_M I) W N bc sz no ho hd p)) := by
    intro m
    induction m with
    | zero =>
      intro h hk I1 b g1 g2 g3 g4 g5
      obtain rfl : h = W := by omega
      have e3 : I1 126 3 = Int32.ofNat h := by rw [g1.1 126 (by omega) (by omega)]; exact hW3
      have hbb : b = gq_sp (gz_M I) h N bc sz no ho hd p := by
        rw [Bool.eq_iff_iff, g5]
        unfold gq_sp
        rw [gq_ag_iff]
        exact ⟨fun q j a b c => q j a c b, fun q j a b c => q j a c b⟩
      refine gs_iload_n (pc := 28) (gd gk_149 18 rfl) rfl ?_
      refine gs_aload_n (pc := 29) (gd gk_149 19 rfl) rfl ?_
      refine gs_getI (pc := 30) (gd gk_149 20 rfl) rfl rfl ?_
      refine gs_as (Int32.ofNat h) (e3) ?_
      refine gs_icmp_ge (pc := 33) (gd gk_149 21 rfl) (fun c33 => ?_) (fun c33 => ?_)
      · replace c33 : h ≤ h := (zle (k := h) (m := h) (by omega) (by omega)).mp c33
        refine gs_iload_n (pc := 142) (gd gk_149 77 rfl) rfl ?_
        -- end 1: ireturn gz_b b, pc 143, locals [(0, .ref (126)), (1, .int (Int32.ofNat p)), (2, .int (gz_b b)), (3, .int (Int32.ofNat h))]
        exact gs_iret (pc := 143) (gd gk_149 78 rfl) rfl (gz_b_nar _) (Nat.zero_le _) (Nat.zero_le _) (⟨I1, rfl, g1, by rw [hbb]⟩)
      · replace c33 : ¬ (h ≤ h) := fun q9 => c33 ((zle (k := h) (m := h) (by omega) (by omega)).mpr q9)
        -- end 2: stop, pc 36, locals [(0, .ref (126)), (1, .int (Int32.ofNat p)), (2, .int (gz_b b)), (3, .int (Int32.ofNat h))]
        exact absurd (Nat.le_refl _) c33
    | succ m ih =>
      intro h hk I1 b g1 g2 g3 g4 g5
      have e3 : I1 126 3 = Int32.ofNat W := by rw [g1.1 126 (by omega) (by omega)]; exact hW3
      have hM1 : gz_M I1 = gz_M I := gm_qf_M (gm_sf_q g1)
      have hwd : gz_M I 1 h = -1 ∨ gz_M I 1 h = 0 ∨ gz_M I 1 h = 1 := by
        obtain ⟨-, -, -, -, -, -, -, hw, -⟩ := hok
        exact hw h (by omega)
      have hL1 : ∀ c, c < 10 → gz_L I1 2 c = gq_sq (gz_M I) (gq_w0 (gz_M I) 0) (gq_p0 (Int32.ofNat p) 0) bc 0 (fun _ => 0) h c := g2
      have tail : ∀ I2, gm_sf I1 I2 → (∀ c, c < 10 → I2 133 (26 + c) = gq_sq (gz_M I) (gq_w0 (gz_M I) 0) (gq_p0 (Int32.ofNat p) 0) bc 0 (fun _ => 0) (h + 1) c) → I2 133 36 = 0 → I2 133 38 = Int32.ofNat (h + 1) → gw_E V 149 (49, [(0, .ref 126), (1, .int (Int32.ofNat p)), (2, .int (gz_b b)), (3, .int (Int32.ofNat h))], [], gS n I2 J, 0, 0) (mq_sn n I J (gq_sp (gz_M I) W N bc sz no ho hd p)) := by
        intro I2 f1 f2 f3 f4
        have f1 : gm_sf I I2 := ⟨fun p q1 q2 => (f1.1 p q1 q2).trans (g1.1 p q1 q2), fun q hq => (f1.2 q hq).trans (g1.2 q hq)⟩
        have hM2 : gz_M I2 = gz_M I := gm_qf_M (gm_sf_q f1)
        refine m_seen_in (W := W) (N := N) (Int32.ofNat p) h sz no ho hd (gq_A (gz_M I) bc 0 (fun _ => 0) p h) (gm_si_o hs f1) (by rw [hM2]; exact hok) (by omega) (fun m hm => ?_) b (fun b2 hb2 => ih (h + 1) (by omega) I2 (b && b2) f1 f2 f3 f4 ?_)
        · rw [hM2]
          exact gq_has_c (s1 := gz_L I2 2) f2 (gq_ok_n hok m hm)
        · rw [Bool.and_eq_true, g5, hb2]
          constructor
          · rintro ⟨q1, q2⟩ j hj h1 h2
            by_cases e : ho j = h
            · rw [e]; exact q2 j hj e h2
            · exact q1 j hj (by omega) h2
          · exact fun q => ⟨fun j hj h1 h2 => q j hj (by omega) h2, fun j hj e h2 => by have := q j hj (by omega) h2; rw [e] at this; exact this⟩
      refine gs_iload_n (pc := 28) (gd gk_149 18 rfl) rfl ?_
      refine gs_aload_n (pc := 29) (gd gk_149 19 rfl) rfl ?_
      refine gs_getI (pc := 30) (gd gk_149 20 rfl) rfl rfl ?_
      refine gs_as (Int32.ofNat W) (e3) ?_
      refine gs_icmp_ge (pc := 33) (gd gk_149 21 rfl) (fun c33 => ?_) (fun c33 => ?_)
      · replace c33 : W ≤ h := (zle (k := W) (m := h) (by omega) (by omega)).mp c33
        refine gs_iload_n (pc := 142) (gd gk_149 77 rfl) rfl ?_
        -- end 1: ireturn gz_b b, pc 143, locals [(0, .ref (126)), (1, .int (Int32.ofNat p)), (2, .int (gz_b b)), (3, .int (Int32.ofNat h))]
        exact absurd c33 (by omega)
      · replace c33 : ¬ (W ≤ h) := fun q9 => c33 ((zle (k := W) (m := h) (by omega) (by omega)).mpr q9)
        refine gs_aload_n (pc := 36) (gd gk_149 22 rfl) rfl ?_
        refine gs_iconst (pc := 37) (gd gk_149 23 rfl) (2) rfl ?_
        refine gs_iload_n (pc := 38) (gd gk_149 24 rfl) rfl ?_
        refine gs_iload_n (pc := 39) (gd gk_149 25 rfl) rfl ?_
        refine gs_callS (as := [.int (Int32.ofNat p), .int (Int32.ofNat h)]) (pc := 40) (gd gk_149 26 rfl) (by decide) rfl rfl (Nat.le_of_ble_eq_true rfl) gq_149_108 (Nat.le_of_ble_eq_true rfl) (c_mhas (Int32.ofNat p) (Int32.ofNat h)) (fun r_40 w_40 q_40 => ?_)
        obtain ⟨rfl, rfl⟩ := q_40
        refine gs_bipush (pc := 43) (gd gk_149 27 rfl) (63) rfl ?_
        refine gs_callV (as := [.int (2), .int ((gz_b (gz_in (Int32.ofNat p) (Int32.ofNat h)))), .int (63)]) (pc := 45) (gd gk_149 28 rfl) (by decide) rfl (by decide) rfl rfl (Nat.le_of_ble_eq_true rfl) gq_149_127 (Nat.le_of_ble_eq_true rfl) (m_pass (W := W) (N := N) 2 h bc (gz_in (Int32.ofNat p) (Int32.ofNat h)) 63 (gz_M I 1 h) (by omega) (by rw [hM1]; exact hok) g4 (by omega) (by rw [g1.1 128 (by omega) (by omega)]; exact hb h (by omega)) hwd (by rw [g1.1 126 (by omega) (by omega)]; exact hbc) hb9) (fun r_45 w_45 q_45 => ?_)
        obtain ⟨I_p, rfl, rfl, p1, p2, p3, p4, p5⟩ := q_45
        refine gs_pop (pc := 48) (gd gk_149 29 rfl) rfl ?_
        -- end 2: stop, pc 49, locals [(0, .ref (126)), (1, .int (Int32.ofNat p)), (2, .int (gz_b b)), (3, .int (Int32.ofNat h))]
        refine tail I_p ⟨p5, fun q hq => p4 q (by omega) (by omega) (by omega)⟩ (fun c hc => ?_) ?_ p3
        · have q1 := p1 c hc
          rw [hM1, show I1 133 (13 * 2 + 10) = 0 from g3, gq_st_c hL1] at q1
          show _ = gq_st (gz_M I) (gq_wd (gz_M I) 0 (0 + h)) (gz_in (Int32.ofNat p) (Int32.ofNat (0 + h))) bc 0 _ c
          rw [Nat.zero_add, gq_wd_0 _ _ (by omega)]
          exact q1
        · rw [p4 36 (by omega) (by omega) (by omega)]; exact g3
  have lp1 : ∀ (m k : Nat), m + k = 13 → ∀ I1, (∀ p, p ≠ 133 → I1 p = I p) → (∀ q, q < 26 → I1 133 q = I 133 q) → (∀ c, c < k → I1 133 (26 + c) = 0) → gw_E V 149 (2, [(0, .ref 126), (1, .int (Int32.ofNat p)), (2, .int (Int32.ofNat k))], [], gS n I1 J, 0, 0) (mq_sn n I J (gq_sp (gz_M I) W N bc sz no ho hd p)) := by
    intro m
    induction m with
    | zero =>
      intro k hk I1 g1 g2 g3
      obtain rfl : k = 13 := by omega
      refine gs_iload_n (pc := 2) (gd gk_149 2 rfl) rfl ?_
      refine gs_bipush (pc := 3) (gd gk_149 3 rfl) (13) rfl ?_
      refine gs_icmp_ge (pc := 5) (gd gk_149 4 rfl) (fun c5 => ?_) (fun c5 => ?_)
      · replace c5 : 13 ≤ 13 := (zle (k := 13) (m := 13) (by omega) (by omega)).mp c5
        refine gs_iconst (pc := 24) (gd gk_149 14 rfl) (1) rfl ?_
        refine gs_istore_n (ls2 := fun v => [(0, .ref (126)), (1, .int (Int32.ofNat p)), (2, .int (v))]) (pc := 25) (gd gk_149 15 rfl) (by rw [gL_149]; decide) (fun _ => rfl) (fun v2_1 hv2_1 => ?_)
        obtain rfl : v2_1 = Int32.ofNat 1 := hv2_1.trans (by first | rfl | (simp only [Int32.ofNat_add, Int32.ofNat_mul]; rfl) | (simp only [Int32.ofNat_add, Int32.ofNat_mul]))
        refine gs_iconst (pc := 26) (gd gk_149 16 rfl) (0) rfl ?_
        refine gs_istore_n (ls2 := fun v => [(0, .ref (126)), (1, .int (Int32.ofNat p)), (2, .int (Int32.ofNat 1)), (3, .int (v))]) (pc := 27) (gd gk_149 17 rfl) (by rw [gL_149]; decide) (fun _ => rfl) (fun v3_1 hv3_1 => ?_)
        obtain rfl : v3_1 = Int32.ofNat 0 := hv3_1.trans (by first | rfl | (simp only [Int32.ofNat_add, Int32.ofNat_mul]; rfl) | (simp only [Int32.ofNat_add, Int32.ofNat_mul]))
        -- end 1: stop, pc 28, locals [(0, .ref (126)), (1, .int (Int32.ofNat p)), (2, .int (Int32.ofNat 1)), (3, .int (Int32.ofNat 0))]
        exact lp2 W 0 (by omega) I1 true ⟨fun p q1 _ => g1 p q1, g2⟩ (fun c hc => g3 c (by omega)) (g3 10 (by omega)) (g3 12 (by omega)) ⟨fun _ j _ hj => absurd hj (Nat.not_lt_zero _), fun _ => rfl⟩
      · replace c5 : ¬ (13 ≤ 13) := fun q9 => c5 ((zle (k := 13) (m := 13) (by omega) (by omega)).mpr q9)
        -- end 2: stop, pc 8, locals [(0, .ref (126)), (1, .int (Int32.ofNat p)), (2, .int (Int32.ofNat 13))]
        exact absurd (by decide) c5
    | succ m ih =>
      intro k hk I1 g1 g2 g3
      refine gs_iload_n (pc := 2) (gd gk_149 2 rfl) rfl ?_
      refine gs_bipush (pc := 3) (gd gk_149 3 rfl) (13) rfl ?_
      refine gs_icmp_ge (pc := 5) (gd gk_149 4 rfl) (fun c5 => ?_) (fun c5 => ?_)
      · replace c5 : 13 ≤ k := (zle (k := 13) (m := k) (by omega) (by omega)).mp c5
        -- end 1: stop, pc 24, locals [(0, .ref (126)), (1, .int (Int32.ofNat p)), (2, .int (Int32.ofNat k))]
        exact absurd c5 (by omega)
      · replace c5 : ¬ (13 ≤ k) := fun q9 => c5 ((zle (k := 13) (m := k) (by omega) (by omega)).mpr q9)
        refine gs_aload_n (pc := 8) (gd gk_149 5 rfl) rfl ?_
        refine gs_getR (r := 133) (pc := 9) (gd gk_149 6 rfl) rfl rfl rfl (by decide) ?_
        refine gs_bipush (pc := 12) (gd gk_149 7 rfl) (26) rfl ?_
        refine gs_iload_n (pc := 14) (gd gk_149 8 rfl) rfl ?_
        refine gs_iadd (pc := 15) (gd gk_149 9 rfl) ?_
        refine gs_iconst (pc := 16) (gd gk_149 10 rfl) (0) rfl ?_
        refine gs_iastoreK ((26 + k)) (52) gs_sl (pc := 17) (gd gk_149 11 rfl) rfl rfl (by decide) (by first | rfl | (simp only [Int32.ofNat_add, Int32.ofNat_mul]; rfl) | (simp only [Int32.ofNat_add, Int32.ofNat_mul])) (by omega) (fun I_1 hI_1 => ?_)
        refine gs_iinc (ls2 := fun v => [(0, .ref (126)), (1, .int (Int32.ofNat p)), (2, .int (v))]) (pc := 18) (gd gk_149 12 rfl) rfl (by rw [gL_149]; decide) (fun _ => rfl) (1) rfl (fun v2_1 hv2_1 => ?_)
        obtain rfl : v2_1 = Int32.ofNat (k + 1) := hv2_1.trans (by first | rfl | (simp only [Int32.ofNat_add, Int32.ofNat_mul]; rfl) | (simp only [Int32.ofNat_add, Int32.ofNat_mul]))
        refine gs_goto (pc := 21) (gd gk_149 13 rfl) ?_
        -- end 2: stop, pc 2, locals [(0, .ref (126)), (1, .int (Int32.ofNat p)), (2, .int (Int32.ofNat (k + 1)))]
        refine ih (k + 1) (by omega) I_1 (fun p hp => by rw [hI_1, gw_u_o hp]; exact g1 p hp) (fun q hq => ?_) (fun c hc => ?_)
        · rw [hI_1, gw_u_s]; simp only [upd]; rw [if_neg (by omega)]; exact g2 q hq
        · rw [hI_1, gw_u_s]
          simp only [upd]
          by_cases e : c = k
          · rw [if_pos (by omega)]
          · rw [if_neg (by omega)]; exact g3 c (by omega)
  refine gs_iconst (pc := 0) (gd gk_149 0 rfl) (0) rfl ?_
  refine gs_istore_n (ls2 := fun v => [(0, .ref (126)), (1, .int (Int32.ofNat p)), (2, .int (v))]) (pc := 1) (gd gk_149 1 rfl) (by rw [gL_149]; decide) (fun _ => rfl) (fun v2_1 hv2_1 => ?_)
  obtain rfl : v2_1 = Int32.ofNat 0 := hv2_1.trans (by first | rfl | (simp only [Int32.ofNat_add, Int32.ofNat_mul]; rfl) | (simp only [Int32.ofNat_add, Int32.ofNat_mul]))
  -- end 1: stop, pc 2, locals [(0, .ref (126)), (1, .int (Int32.ofNat p)), (2, .int (Int32.ofNat 0))]
  exact lp1 13 0 rfl I (fun _ _ => rfl) (fun _ _ => rfl) (fun c hc => absurd hc (Nat.not_lt_zero _))
end
