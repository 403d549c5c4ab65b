/-! ===== two bakers: the reference's isChoice, runTwo ===== -/
def gq_ch (h0 W h : Nat) : Bool := decide (h = 9) || (decide (h0 ≤ h) && decide (h < W))
theorem gq_ch_rg {h0 W h : Nat} (h1 : h0 < 100) (h2 : W < 100) (h3 : h < 100) : gz_rg (Int32.ofNat h) (Int32.ofNat h0) (Int32.ofNat W - 1) = (decide (h0 ≤ h) && decide (h < W)) := by
  have a1 := zle (k := h0) (m := h) (by omega) (by omega)
  have a2 := zlt (k := h) (m := W) (by omega) (by omega)
  have a3 := z0 W (by omega)
  unfold gz_rg
  rw [← Bool.decide_and, decide_eq_decide, ← a1, ← a2]
  generalize Int32.ofNat W = y at *
  generalize Int32.ofNat h = x at *
  constructor
  · intro q; exact ⟨q.1, by grind⟩
  · intro q; exact ⟨q.1, by grind⟩
theorem gq_pl_hr {h0 L a g : Nat} (h : h0 + L ≤ 8) (ha : a ≤ L) (hg : g < L) : (h0 + g = gq_hr h0 L a) ↔ g = a := by
  unfold gq_hr
  split <;> omega
theorem gq_mx2 (x y : Int32) : (if x ≤ y then y else x) = (if x < y then y else x) := by
  by_cases h : x < y
  · rw [if_pos h, if_pos (by grind)]
  · by_cases h2 : x ≤ y
    · rw [if_pos h2, if_neg h]; grind
    · rw [if_neg h2, if_neg h]
/-- what runTwo may change -/
def gm_tf (I I2 : Nat → Nat → Int32) : Prop := (∀ p, p ≠ 126 → p ≠ 128 → p ≠ 133 → p ≠ 135 → I2 p = I p) ∧ (∀ q, q < 13 → I2 133 q = I 133 q) ∧ ∀ q, q ≠ 30 → q ≠ 31 → I2 126 q = I 126 q
theorem gm_tf_q {I I2 : Nat → Nat → Int32} (h : gm_tf I I2) : gm_qf I I2 := ⟨fun p a b _ _ _ c d _ _ _ => h.1 p a b c d, h.2.1, fun q _ _ _ _ _ _ a b => h.2.2 q a b⟩
theorem gm_tf_tr {I I2 I3 : Nat → Nat → Int32} (h : gm_tf I I2) (h' : gm_tf I2 I3) : gm_tf I I3 := ⟨fun p a b c d => (h'.1 p a b c d).trans (h.1 p a b c d), fun q a => (h'.2.1 q a).trans (h.2.1 q a), fun q a b => (h'.2.2 q a b).trans (h.2.2 q a b)⟩
theorem gm_tf_u {I I2 : Nat → Nat → Int32} {k : Nat} {x : Int32} (h : I2 = gw_u I 126 k x) (hk : k = 30 ∨ k = 31) : gm_tf I I2 := ⟨fun p a _ _ _ => by rw [h, gw_u_o a], fun q _ => by rw [h, gw_u_o (by omega)], fun q a b => by rw [h, gw_u_s]; unfold upd; rw [if_neg (by omega)]⟩
section
variable {V : gw_V} {n W N h0 L bc c2 : Nat} {I : Nat → Nat → Int32} {J : Nat → Nat → Int64}
theorem m_isChoice (h : Nat) (hh9 : h ≤ 9) (hn : gm_now I W N h0 L bc) : gw_E V 155 (0, [(0, .ref 126), (1, .int (Int32.ofNat h))], [], gS n I J, 0, 0) (fun v w' => v = some (.int (gz_b (gq_ch h0 W h))) ∧ w' = gS n I J) := by
  have hW : I 126 3 = Int32.ofNat W := hn.1.1
  have hW8 := hn.1.2.1
  have hWe := hn.2.2.1
  have e := gq_ch_rg (h0 := h0) (W := W) (h := h) (by omega) (by omega) (by omega)
  refine gs_iload_n (pc := 0) (gd gk_155 0 rfl) rfl ?_
  refine gs_bipush (pc := 1) (gd gk_155 1 rfl) (9) rfl ?_
  refine gs_icmp_eq (pc := 3) (gd gk_155 2 rfl) (fun c3 => ?_) (fun c3 => ?_)
  · replace c3 : h = 9 := (zeq (k := h) (m := 9) (by omega) (by omega)).mp c3
    refine gs_iconst (pc := 29) (gd gk_155 17 rfl) (1) rfl ?_
    refine gs_goto (pc := 30) (gd gk_155 18 rfl) ?_
    -- end 1: ireturn 1, pc 34, locals [(0, .ref (126)), (1, .int (Int32.ofNat h))]
    exact gs_iret (pc := 34) (gd gk_155 20 rfl) rfl (rfl) (Nat.zero_le _) (Nat.zero_le _) (⟨by unfold gq_ch; rw [decide_eq_true c3]; rfl, rfl⟩)
  · replace c3 : ¬ (h = 9) := fun q9 => c3 ((zeq (k := h) (m := 9) (by omega) (by omega)).mpr q9)
    refine gs_iload_n (pc := 6) (gd gk_155 3 rfl) rfl ?_
    refine gs_i2l (pc := 7) (gd gk_155 4 rfl) ?_
    refine gs_aload_n (pc := 8) (gd gk_155 5 rfl) rfl ?_
    refine gs_getR (r := 133) (pc := 9) (gd gk_155 6 rfl) rfl rfl rfl (by decide) ?_
    refine gs_bipush (pc := 12) (gd gk_155 7 rfl) (12) rfl ?_
    refine gs_ialoadK (12) (52) (pc := 14) (gd gk_155 8 rfl) (Or.inl rfl) rfl (by decide) (by first | rfl | (simp only [Int32.ofNat_add, Int32.ofNat_mul]; rfl) | (simp only [Int32.ofNat_add, Int32.ofNat_mul])) (by omega) ?_
    refine gs_as (Int32.ofNat h0) (hn.2.1) ?_
    refine gs_i2l (pc := 15) (gd gk_155 9 rfl) ?_
    refine gs_aload_n (pc := 16) (gd gk_155 10 rfl) rfl ?_
    refine gs_getI (pc := 17) (gd gk_155 11 rfl) rfl rfl ?_
    refine gs_as (Int32.ofNat W) (hW) ?_
    refine gs_iconst (pc := 20) (gd gk_155 12 rfl) (1) rfl ?_
    refine gs_isub (pc := 21) (gd gk_155 13 rfl) ?_
    refine gs_i2l (pc := 22) (gd gk_155 14 rfl) ?_
    refine gs_callS (as := [.long ((Int32.ofNat h : Int32).toInt64), .long ((Int32.ofNat h0 : Int32).toInt64), .long (((Int32.ofNat W - 1) : Int32).toInt64)]) (pc := 23) (gd gk_155 15 rfl) (by decide) rfl rfl (Nat.le_of_ble_eq_true rfl) gq_155_107 (Nat.le_of_ble_eq_true rfl) (c_mrg (Int32.ofNat h) (Int32.ofNat h0) ((Int32.ofNat W - 1))) (fun r_23 w_23 q_23 => ?_)
    obtain ⟨rfl, rfl⟩ := q_23
    refine gs_if_eq (pc := 26) (gd gk_155 16 rfl) (fun c26 => ?_) (fun c26 => ?_)
    · refine gs_iconst (pc := 33) (gd gk_155 19 rfl) (0) rfl ?_
      -- end 2: ireturn 0, pc 34, locals [(0, .ref (126)), (1, .int (Int32.ofNat h))]
      exact gs_iret (pc := 34) (gd gk_155 20 rfl) rfl (rfl) (Nat.zero_le _) (Nat.zero_le _) (⟨by unfold gq_ch; rw [decide_eq_false c3, ← e, gz_b_eq.mp c26]; rfl, rfl⟩)
    · refine gs_iconst (pc := 29) (gd gk_155 17 rfl) (1) rfl ?_
      refine gs_goto (pc := 30) (gd gk_155 18 rfl) ?_
      -- end 3: ireturn 1, pc 34, locals [(0, .ref (126)), (1, .int (Int32.ofNat h))]
      exact gs_iret (pc := 34) (gd gk_155 20 rfl) rfl (rfl) (Nat.zero_le _) (Nat.zero_le _) (⟨by unfold gq_ch; rw [← e, gz_b_ne.mp c26, Bool.or_true]; rfl, rfl⟩)
abbrev mq_rt (n : Nat) (I : Nat → Nat → Int32) (J : Nat → Nat → Int64) (N h0 L bc c2 a b : Nat) : Option Value → gw_W → Prop := fun v w' => v = none ∧ ∃ I2, w' = gS n I2 J ∧ I2 126 30 = gq_F1 (gz_M I) N h0 L bc c2 (I 133 10) (I 133) a b ∧ I2 126 31 = gq_F2 (gz_M I) N h0 L bc c2 (I 133 10) (I 133) a b ∧ gm_tf I I2
theorem m_runTwo (a b : Nat) (ha : a ≤ L) (hb : b ≤ L) (hc2 : c2 < 10) (hn : gm_now I W N h0 L bc) : gw_E V 154 (0, [(0, .ref 126), (1, .int (Int32.ofNat (gq_hr h0 L a))), (2, .int (Int32.ofNat (gq_hr h0 L b))), (3, .int (Int32.ofNat c2))], [], gS n I J, 0, 0) (mq_rt n I J N h0 L bc c2 a b) := by
  obtain ⟨hok, hh, hW, hbc, hb9⟩ := id hn
  obtain ⟨hW0, hW8, hN, hN6, -, -, -, hwnd, hns⟩ := id hok
  have hW3 : I 126 3 = Int32.ofNat W := hW0
  have hN : I 126 4 = Int32.ofNat N := hN
  have hra := gq_hr_9 (h0 := h0) (L := L) (a := a) (by omega)
  have hrb := gq_hr_9 (h0 := h0) (L := L) (a := b) (by omega)
  have hal : a < L ↔ gq_hr h0 L a < 9 := by unfold gq_hr; split <;> omega
  have hbl : b < L ↔ gq_hr h0 L b < 9 := by unfold gq_hr; split <;> omega
  generalize hA : gq_fs (gz_M I) h0 bc (I 133 10) (I 133) a = A
  generalize hB : gq_fs (gz_M I) h0 c2 (I 133 10) (fun _ => 0) b = B
  generalize hx1 : (if a < L then -gz_M I 0 2 else 0) = x1
  generalize hx2 : (if b < L then -gz_M I 0 2 else 0) = x2
  have hlp : ∀ (r g : Nat), r + g = L → ∀ I1, gm_tf I I1 → (∀ h, h < 8 → I1 128 h = I 127 h) → (∀ c, c < 10 → I1 133 (13 + c) = gq_sq (gz_M I) (gq_w0 (gz_M I) h0) (fun q => decide (q = a)) bc (I 133 10) (I 133) g c) → (∀ c, c < 10 → I1 133 (26 + c) = gq_sq (gz_M I) (gq_w0 (gz_M I) h0) (fun q => decide (q = b)) c2 (I 133 10) (fun _ => 0) g c) → I1 133 23 = I 133 10 → I1 133 36 = I 133 10 → I1 126 30 = gq_f1 (gz_M I) N h0 A B x1 g → I1 126 31 = gq_f2 (gz_M I) N h0 A B x2 g → gw_E V 154 (90, [(0, .ref 126), (1, .int (Int32.ofNat (gq_hr h0 L a))), (2, .int (Int32.ofNat (gq_hr h0 L b))), (3, .int (Int32.ofNat c2)), (4, .int (Int32.ofNat (h0 + g)))], [], gS n I1 J, 0, 0) (mq_rt n I J N h0 L bc c2 a b) := by
    intro r
    induction r with
    | zero =>
      intro g hg I1 g1 g2 g3 g4 g5 g6 g7 g8
      obtain rfl : g = L := by omega
      have hW31 : I1 126 3 = Int32.ofNat W := by rw [g1.2.2 3 (by omega) (by omega)]; exact hW3
      refine gs_iload (pc := 90) (gd gk_154 49 rfl) rfl ?_
      refine gs_aload_n (pc := 92) (gd gk_154 50 rfl) rfl ?_
      refine gs_getI (pc := 93) (gd gk_154 51 rfl) rfl rfl ?_
      refine gs_as (Int32.ofNat W) (hW31) ?_
      refine gs_icmp_ge (pc := 96) (gd gk_154 52 rfl) (fun c96 => ?_) (fun c96 => ?_)
      · replace c96 : W ≤ (h0 + g) := (zle (k := W) (m := (h0 + g)) (by omega) (by omega)).mp c96
        -- end 1: return, pc 319, locals [(0, .ref (126)), (1, .int (Int32.ofNat (gq_hr h0 g a))), (2, .int (Int32.ofNat (gq_hr h0 g b))), (3, .int (Int32.ofNat c2)), (4, .int (Int32.ofNat (h0 + g)))]
        exact gs_ret (pc := 319) (gd gk_154 169 rfl) rfl (Nat.zero_le _) (Nat.zero_le _) (⟨rfl, I1, rfl, by unfold gq_F1; rw [hA, hB, hx1]; exact g7, by unfold gq_F2; rw [hA, hB, hx2]; exact g8, g1⟩)
      · replace c96 : ¬ (W ≤ (h0 + g)) := fun q9 => c96 ((zle (k := W) (m := (h0 + g)) (by omega) (by omega)).mpr q9)
        -- end 2: stop, pc 99, locals [(0, .ref (126)), (1, .int (Int32.ofNat (gq_hr h0 g a))), (2, .int (Int32.ofNat (gq_hr h0 g b))), (3, .int (Int32.ofNat c2)), (4, .int (Int32.ofNat (h0 + g)))]
        exact absurd c96 (by omega)
    | succ r ih =>
      intro g hg I1 g1 g2 g3 g4 g5 g6 g7 g8
      have hW31 : I1 126 3 = Int32.ofNat W := by rw [g1.2.2 3 (by omega) (by omega)]; exact hW3
      have hM1 : gz_M I1 = gz_M I := gm_qf_M (gm_tf_q g1)
      have hwk : I1 128 (h0 + g) = gq_w0 (gz_M I) h0 g := by
        show _ = gq_wd _ _ _
        rw [g2 _ (by omega), gq_wd_0 _ _ (by omega)]; rfl
      have hw1 : gq_w0 (gz_M I) h0 g = gz_M I 1 (h0 + g) := gq_wd_0 _ _ (by omega)
      have hwd : gq_w0 (gz_M I) h0 g = -1 ∨ gq_w0 (gz_M I) h0 g = 0 ∨ gq_w0 (gz_M I) h0 g = 1 := by rw [hw1]; exact hwnd _ (by omega)
      have hpa := gq_pl_hr (a := a) (show h0 + L ≤ 8 by omega) ha (show g < L by omega)
      have hpb := gq_pl_hr (a := b) (show h0 + L ≤ 8 by omega) hb (show g < L by omega)
      have klp : ∀ (r2 k : Nat), r2 + k = N → ∀ I2, gm_tf I I2 → (∀ h, h < 8 → I2 128 h = I 127 h) → (∀ c, c < 10 → I2 133 (13 + c) = gq_sq (gz_M I) (gq_w0 (gz_M I) h0) (fun q => decide (q = a)) bc (I 133 10) (I 133) (g + 1) c) → (∀ c, c < 10 → I2 133 (26 + c) = gq_sq (gz_M I) (gq_w0 (gz_M I) h0) (fun q => decide (q = b)) c2 (I 133 10) (fun _ => 0) (g + 1) c) → I2 133 23 = I 133 10 → I2 133 36 = I 133 10 → I2 126 30 = gq_e1 (gz_M I) h0 A B g (gq_f1 (gz_M I) N h0 A B x1 g) k → I2 126 31 = gq_e2 (gz_M I) h0 A B g (gq_f2 (gz_M I) N h0 A B x2 g) k → gw_E V 154 (153, [(0, .ref 126), (1, .int (Int32.ofNat (gq_hr h0 L a))), (2, .int (Int32.ofNat (gq_hr h0 L b))), (3, .int (Int32.ofNat c2)), (4, .int (Int32.ofNat (h0 + g))), (5, .int (Int32.ofNat k))], [], gS n I2 J, 0, 0) (mq_rt n I J N h0 L bc c2 a b) := by
        intro r2
        induction r2 with
        | zero =>
          intro k hk I2 d1 d2 d3 d4 d5 d6 d7 d8
          obtain rfl : k = N := by omega
          have hN2 : I2 126 4 = Int32.ofNat k := by rw [d1.2.2 4 (by omega) (by omega)]; exact hN
          refine gs_iload (pc := 153) (gd gk_154 82 rfl) rfl ?_
          refine gs_aload_n (pc := 155) (gd gk_154 83 rfl) rfl ?_
          refine gs_getI (pc := 156) (gd gk_154 84 rfl) rfl rfl ?_
          refine gs_as (Int32.ofNat k) (hN2) ?_
          refine gs_icmp_ge (pc := 159) (gd gk_154 85 rfl) (fun c159 => ?_) (fun c159 => ?_)
          · replace c159 : k ≤ k := (zle (k := k) (m := k) (by omega) (by omega)).mp c159
            refine gs_iinc (ls2 := fun v => [(0, .ref (126)), (1, .int (Int32.ofNat (gq_hr h0 L a))), (2, .int (Int32.ofNat (gq_hr h0 L b))), (3, .int (Int32.ofNat c2)), (4, .int (v)), (5, .int (Int32.ofNat k))]) (pc := 313) (gd gk_154 167 rfl) rfl (by rw [gL_154]; decide) (fun _ => rfl) (1) rfl (fun v4_1 hv4_1 => ?_)
            obtain rfl : v4_1 = Int32.ofNat ((h0 + g) + 1) := hv4_1.trans (by first | rfl | (simp only [Int32.ofNat_add, Int32.ofNat_mul]; rfl) | (simp only [Int32.ofNat_add, Int32.ofNat_mul]))
            refine gs_goto (pc := 316) (gd gk_154 168 rfl) ?_
            -- end 1: stop, pc 90, locals [(0, .ref (126)), (1, .int (Int32.ofNat (gq_hr h0 L a))), (2, .int (Int32.ofNat (gq_hr h0 L b))), (3, .int (Int32.ofNat c2)), (4, .int (Int32.ofNat ((h0 + g) + 1))), (5, .int (Int32.ofNat k))]
            exact gs_drop [0, 1, 2, 3, 4] rfl (ih (g + 1) (by omega) I2 d1 d2 d3 d4 d5 d6 d7 d8)
          · replace c159 : ¬ (k ≤ k) := fun q9 => c159 ((zle (k := k) (m := k) (by omega) (by omega)).mpr q9)
            -- end 2: stop, pc 162, locals [(0, .ref (126)), (1, .int (Int32.ofNat (gq_hr h0 L a))), (2, .int (Int32.ofNat (gq_hr h0 L b))), (3, .int (Int32.ofNat c2)), (4, .int (Int32.ofNat (h0 + g))), (5, .int (Int32.ofNat k))]
            exact absurd (Nat.le_refl _) c159
        | succ r2 ih2 =>
          intro k hk I2 d1 d2 d3 d4 d5 d6 d7 d8
          have hN2 : I2 126 4 = Int32.ofNat N := by rw [d1.2.2 4 (by omega) (by omega)]; exact hN
          have hM2 : gz_M I2 = gz_M I := gm_qf_M (gm_tf_q d1)
          have h129 : I2 129 = I 129 := d1.1 129 (by omega) (by omega) (by omega) (by omega)
          have hk9 := hns k (by omega)
          obtain ⟨cc, hcc, hc9⟩ : ∃ cc, I2 129 (4 * k) = Int32.ofNat cc ∧ cc < 10 := by
            have h1 : 0 ≤ I2 129 (4 * k) := by rw [h129]; exact hk9.1.1
            have h2 : I2 129 (4 * k) ≤ 9 := by rw [h129]; exact hk9.1.2
            exact ⟨(I2 129 (4 * k)).toNatClampNeg, (znat h1).1.symm, by have := (zle_l h1 (n := 9) (by decide)).mp h2; omega⟩
          have hcs : (gz_M I 2 k).toNatClampNeg = cc := by rw [← hM2, show gz_M I2 2 k = I2 129 (4 * k) from rfl, hcc, znn (by omega)]
          have eA : I2 133 (13 + cc) = A g k := by rw [d3 cc hc9, ← hA]; unfold gq_fs; rw [hcs]
          have eB : I2 133 (26 + cc) = B g k := by rw [d4 cc hc9, ← hB]; unfold gq_fs; rw [hcs]
          have e3 : I2 129 (4 * k + 1) = gz_M I 3 k := by rw [h129]; rfl
          have ebl : I2 128 (h0 + g) = gz_M I 1 (h0 + g) := by rw [d2 _ (by omega)]; rfl
          have done : ∀ I3 d1' d2', gm_tf I2 I3 → I3 128 = I2 128 → I3 133 = I2 133 → I3 126 30 = d1' → I3 126 31 = d2' → d1' = gq_e1 (gz_M I) h0 A B g (gq_f1 (gz_M I) N h0 A B x1 g) (k + 1) → d2' = gq_e2 (gz_M I) h0 A B g (gq_f2 (gz_M I) N h0 A B x2 g) (k + 1) → gw_E V 154 (153, [(0, .ref 126), (1, .int (Int32.ofNat (gq_hr h0 L a))), (2, .int (Int32.ofNat (gq_hr h0 L b))), (3, .int (Int32.ofNat c2)), (4, .int (Int32.ofNat (h0 + g))), (5, .int (Int32.ofNat (k + 1)))], [], gS n I3 J, 0, 0) (mq_rt n I J N h0 L bc c2 a b) := by
            intro I3 u1 u2 t1 t2 t3 t4 t5 t6 t7
            exact ih2 (k + 1) (by omega) I3 (gm_tf_tr d1 t1) (fun h hh => by rw [t2]; exact d2 h hh) (fun c hc => by rw [t3]; exact d3 c hc) (fun c hc => by rw [t3]; exact d4 c hc) (by rw [t3]; exact d5) (by rw [t3]; exact d6) (t4.trans t6) (t5.trans t7)
          have t265f : gq_ts (gq_du (gz_M I) h0 (A g k) (B g k) g k) (A g k) (B g k) = false → gw_E V 154 (264, [(0, .ref 126), (1, .int (Int32.ofNat (gq_hr h0 L a))), (2, .int (Int32.ofNat (gq_hr h0 L b))), (3, .int (Int32.ofNat c2)), (4, .int (Int32.ofNat (h0 + g))), (5, .int (Int32.ofNat k)), (6, .int (A g k)), (7, .int (B g k)), (8, .int (gq_du (gz_M I) h0 (A g k) (B g k) g k))], [], gS n I2 J, 0, 0) (mq_rt n I J N h0 L bc c2 a b) := by
            intro ht
            refine gs_iconst (pc := 264) (gd gk_154 143 rfl) (0) rfl ?_
            refine gs_istore (ls2 := fun v => [(0, .ref (126)), (1, .int (Int32.ofNat (gq_hr h0 L a))), (2, .int (Int32.ofNat (gq_hr h0 L b))), (3, .int (Int32.ofNat c2)), (4, .int (Int32.ofNat (h0 + g))), (5, .int (Int32.ofNat k)), (6, .int (A g k)), (7, .int (B g k)), (8, .int (gq_du (gz_M I) h0 (A g k) (B g k) g k)), (9, .int (v))]) (pc := 265) (gd gk_154 144 rfl) (by rw [gL_154]; decide) (fun _ => rfl) (fun v9_1 hv9_1 => ?_)
            obtain rfl : v9_1 = Int32.ofNat 0 := hv9_1.trans (by first | rfl | (simp only [Int32.ofNat_add, Int32.ofNat_mul]; rfl) | (simp only [Int32.ofNat_add, Int32.ofNat_mul]))
            refine gs_aload_n (pc := 267) (gd gk_154 145 rfl) rfl ?_
            refine gs_dup (pc := 268) (gd gk_154 146 rfl) rfl ?_
            refine gs_getI (pc := 269) (gd gk_154 147 rfl) rfl rfl ?_
            refine gs_iload (pc := 272) (gd gk_154 148 rfl) rfl ?_
            refine gs_if_eq (pc := 274) (gd gk_154 149 rfl) (fun c274 => ?_) (fun c274 => ?_)
            · replace c274 : 0 = 0 := (zeq (k := 0) (m := 0) (by omega) (by omega)).mp c274
              refine gs_iload (pc := 281) (gd gk_154 152 rfl) rfl ?_
              refine gs_iadd (pc := 283) (gd gk_154 153 rfl) ?_
              refine gs_putI (pc := 284) (gd gk_154 154 rfl) rfl rfl rfl rfl (fun I_1 hI_1 => ?_)
              refine gs_aload_n (pc := 287) (gd gk_154 155 rfl) rfl ?_
              refine gs_dup (pc := 288) (gd gk_154 156 rfl) rfl ?_
              refine gs_getI (pc := 289) (gd gk_154 157 rfl) rfl rfl ?_
              refine gs_iload (pc := 292) (gd gk_154 158 rfl) rfl ?_
              refine gs_if_eq (pc := 294) (gd gk_154 159 rfl) (fun c294 => ?_) (fun c294 => ?_)
              · replace c294 : 0 = 0 := (zeq (k := 0) (m := 0) (by omega) (by omega)).mp c294
                refine gs_iconst (pc := 302) (gd gk_154 162 rfl) (0) rfl ?_
                refine gs_iadd (pc := 303) (gd gk_154 163 rfl) ?_
                refine gs_putI (pc := 304) (gd gk_154 164 rfl) rfl rfl rfl rfl (fun I_2 hI_2 => ?_)
                refine gs_iinc (ls2 := fun v => [(0, .ref (126)), (1, .int (Int32.ofNat (gq_hr h0 L a))), (2, .int (Int32.ofNat (gq_hr h0 L b))), (3, .int (Int32.ofNat c2)), (4, .int (Int32.ofNat (h0 + g))), (5, .int (v)), (6, .int (A g k)), (7, .int (B g k)), (8, .int (gq_du (gz_M I) h0 (A g k) (B g k) g k)), (9, .int (Int32.ofNat 0))]) (pc := 307) (gd gk_154 165 rfl) rfl (by rw [gL_154]; decide) (fun _ => rfl) (1) rfl (fun v5_1 hv5_1 => ?_)
                obtain rfl : v5_1 = Int32.ofNat (k + 1) := hv5_1.trans (by first | rfl | (simp only [Int32.ofNat_add, Int32.ofNat_mul]; rfl) | (simp only [Int32.ofNat_add, Int32.ofNat_mul]))
                refine gs_goto (pc := 310) (gd gk_154 166 rfl) ?_
                -- end 1: stop, pc 153, locals [(0, .ref (126)), (1, .int (Int32.ofNat (gq_hr h0 L a))), (2, .int (Int32.ofNat (gq_hr h0 L b))), (3, .int (Int32.ofNat c2)), (4, .int (Int32.ofNat (h0 + g))), (5, .int (Int32.ofNat (k + 1))), (6, .int (A g k)), (7, .int (B g k)), (8, .int (gq_du (gz_M I) h0 (A g k) (B g k) g k)), (9, .int (Int32.ofNat 0))]
                refine gs_drop [0, 1, 2, 3, 4, 5] rfl (done I_2 _ _ (gm_tf_tr (gm_tf_u hI_1 (by omega)) (gm_tf_u hI_2 (by omega))) (by rw [hI_2, gw_u_o (by omega), hI_1, gw_u_o (by omega)]) (by rw [hI_2, gw_u_o (by omega), hI_1, gw_u_o (by omega)]) rfl rfl ?_ ?_)
                · rw [hI_2, gw_u_s, hI_1, gw_u_s]; unfold upd; rw [if_neg (by omega), if_pos rfl, d7]; show _ = if _ then _ else _; rw [if_neg (by rw [ht]; decide)]
                · rw [hI_2, gw_u_s, hI_1, gw_u_s]; unfold upd; rw [if_pos rfl, if_neg (by omega), d8, Int32.add_zero]; show _ = if _ then _ else _; rw [if_neg (by rw [ht]; decide)]
              · replace c294 : ¬ (0 = 0) := fun q9 => c294 ((zeq (k := 0) (m := 0) (by omega) (by omega)).mpr q9)
                -- end 2: stop, pc 297, locals [(0, .ref (126)), (1, .int (Int32.ofNat (gq_hr h0 L a))), (2, .int (Int32.ofNat (gq_hr h0 L b))), (3, .int (Int32.ofNat c2)), (4, .int (Int32.ofNat (h0 + g))), (5, .int (Int32.ofNat k)), (6, .int (A g k)), (7, .int (B g k)), (8, .int (gq_du (gz_M I) h0 (A g k) (B g k) g k)), (9, .int (Int32.ofNat 0))]
                exact absurd rfl c294
            · replace c274 : ¬ (0 = 0) := fun q9 => c274 ((zeq (k := 0) (m := 0) (by omega) (by omega)).mpr q9)
              -- end 3: stop, pc 277, locals [(0, .ref (126)), (1, .int (Int32.ofNat (gq_hr h0 L a))), (2, .int (Int32.ofNat (gq_hr h0 L b))), (3, .int (Int32.ofNat c2)), (4, .int (Int32.ofNat (h0 + g))), (5, .int (Int32.ofNat k)), (6, .int (A g k)), (7, .int (B g k)), (8, .int (gq_du (gz_M I) h0 (A g k) (B g k) g k)), (9, .int (Int32.ofNat 0))]
              exact absurd rfl c274
          have t265t : gq_ts (gq_du (gz_M I) h0 (A g k) (B g k) g k) (A g k) (B g k) = true → gw_E V 154 (260, [(0, .ref 126), (1, .int (Int32.ofNat (gq_hr h0 L a))), (2, .int (Int32.ofNat (gq_hr h0 L b))), (3, .int (Int32.ofNat c2)), (4, .int (Int32.ofNat (h0 + g))), (5, .int (Int32.ofNat k)), (6, .int (A g k)), (7, .int (B g k)), (8, .int (gq_du (gz_M I) h0 (A g k) (B g k) g k))], [], gS n I2 J, 0, 0) (mq_rt n I J N h0 L bc c2 a b) := by
            intro ht
            refine gs_iconst (pc := 260) (gd gk_154 141 rfl) (1) rfl ?_
            refine gs_goto (pc := 261) (gd gk_154 142 rfl) ?_
            refine gs_istore (ls2 := fun v => [(0, .ref (126)), (1, .int (Int32.ofNat (gq_hr h0 L a))), (2, .int (Int32.ofNat (gq_hr h0 L b))), (3, .int (Int32.ofNat c2)), (4, .int (Int32.ofNat (h0 + g))), (5, .int (Int32.ofNat k)), (6, .int (A g k)), (7, .int (B g k)), (8, .int (gq_du (gz_M I) h0 (A g k) (B g k) g k)), (9, .int (v))]) (pc := 265) (gd gk_154 144 rfl) (by rw [gL_154]; decide) (fun _ => rfl) (fun v9_1 hv9_1 => ?_)
            obtain rfl : v9_1 = Int32.ofNat 1 := hv9_1.trans (by first | rfl | (simp only [Int32.ofNat_add, Int32.ofNat_mul]; rfl) | (simp only [Int32.ofNat_add, Int32.ofNat_mul]))
            refine gs_aload_n (pc := 267) (gd gk_154 145 rfl) rfl ?_
            refine gs_dup (pc := 268) (gd gk_154 146 rfl) rfl ?_
            refine gs_getI (pc := 269) (gd gk_154 147 rfl) rfl rfl ?_
            refine gs_iload (pc := 272) (gd gk_154 148 rfl) rfl ?_
            refine gs_if_eq (pc := 274) (gd gk_154 149 rfl) (fun c274 => ?_) (fun c274 => ?_)
            · replace c274 : 1 = 0 := (zeq (k := 1) (m := 0) (by omega) (by omega)).mp c274
              -- end 1: stop, pc 281, locals [(0, .ref (126)), (1, .int (Int32.ofNat (gq_hr h0 L a))), (2, .int (Int32.ofNat (gq_hr h0 L b))), (3, .int (Int32.ofNat c2)), (4, .int (Int32.ofNat (h0 + g))), (5, .int (Int32.ofNat k)), (6, .int (A g k)), (7, .int (B g k)), (8, .int (gq_du (gz_M I) h0 (A g k) (B g k) g k)), (9, .int (Int32.ofNat 1))]
              exact absurd c274 (by omega)
            · replace c274 : ¬ (1 = 0) := fun q9 => c274 ((zeq (k := 1) (m := 0) (by omega) (by omega)).mpr q9)
              refine gs_iconst (pc := 277) (gd gk_154 150 rfl) (0) rfl ?_
              refine gs_goto (pc := 278) (gd gk_154 151 rfl) ?_
              refine gs_iadd (pc := 283) (gd gk_154 153 rfl) ?_
              refine gs_putI (pc := 284) (gd gk_154 154 rfl) rfl rfl rfl rfl (fun I_1 hI_1 => ?_)
              refine gs_aload_n (pc := 287) (gd gk_154 155 rfl) rfl ?_
              refine gs_dup (pc := 288) (gd gk_154 156 rfl) rfl ?_
              refine gs_getI (pc := 289) (gd gk_154 157 rfl) rfl rfl ?_
              refine gs_iload (pc := 292) (gd gk_154 158 rfl) rfl ?_
              refine gs_if_eq (pc := 294) (gd gk_154 159 rfl) (fun c294 => ?_) (fun c294 => ?_)
              · replace c294 : 1 = 0 := (zeq (k := 1) (m := 0) (by omega) (by omega)).mp c294
                -- end 2: stop, pc 302, locals [(0, .ref (126)), (1, .int (Int32.ofNat (gq_hr h0 L a))), (2, .int (Int32.ofNat (gq_hr h0 L b))), (3, .int (Int32.ofNat c2)), (4, .int (Int32.ofNat (h0 + g))), (5, .int (Int32.ofNat k)), (6, .int (A g k)), (7, .int (B g k)), (8, .int (gq_du (gz_M I) h0 (A g k) (B g k) g k)), (9, .int (Int32.ofNat 1))]
                exact absurd c294 (by omega)
              · replace c294 : ¬ (1 = 0) := fun q9 => c294 ((zeq (k := 1) (m := 0) (by omega) (by omega)).mpr q9)
                refine gs_iload (pc := 297) (gd gk_154 160 rfl) rfl ?_
                refine gs_goto (pc := 299) (gd gk_154 161 rfl) ?_
                refine gs_iadd (pc := 303) (gd gk_154 163 rfl) ?_
                refine gs_putI (pc := 304) (gd gk_154 164 rfl) rfl rfl rfl rfl (fun I_2 hI_2 => ?_)
                refine gs_iinc (ls2 := fun v => [(0, .ref (126)), (1, .int (Int32.ofNat (gq_hr h0 L a))), (2, .int (Int32.ofNat (gq_hr h0 L b))), (3, .int (Int32.ofNat c2)), (4, .int (Int32.ofNat (h0 + g))), (5, .int (v)), (6, .int (A g k)), (7, .int (B g k)), (8, .int (gq_du (gz_M I) h0 (A g k) (B g k) g k)), (9, .int (Int32.ofNat 1))]) (pc := 307) (gd gk_154 165 rfl) rfl (by rw [gL_154]; decide) (fun _ => rfl) (1) rfl (fun v5_1 hv5_1 => ?_)
                obtain rfl : v5_1 = Int32.ofNat (k + 1) := hv5_1.trans (by first | rfl | (simp only [Int32.ofNat_add, Int32.ofNat_mul]; rfl) | (simp only [Int32.ofNat_add, Int32.ofNat_mul]))
                refine gs_goto (pc := 310) (gd gk_154 166 rfl) ?_
                -- end 3: stop, pc 153, locals [(0, .ref (126)), (1, .int (Int32.ofNat (gq_hr h0 L a))), (2, .int (Int32.ofNat (gq_hr h0 L b))), (3, .int (Int32.ofNat c2)), (4, .int (Int32.ofNat (h0 + g))), (5, .int (Int32.ofNat (k + 1))), (6, .int (A g k)), (7, .int (B g k)), (8, .int (gq_du (gz_M I) h0 (A g k) (B g k) g k)), (9, .int (Int32.ofNat 1))]
                refine gs_drop [0, 1, 2, 3, 4, 5] rfl (done I_2 _ _ (gm_tf_tr (gm_tf_u hI_1 (by omega)) (gm_tf_u hI_2 (by omega))) (by rw [hI_2, gw_u_o (by omega), hI_1, gw_u_o (by omega)]) (by rw [hI_2, gw_u_o (by omega), hI_1, gw_u_o (by omega)]) rfl rfl ?_ ?_)
                · rw [hI_2, gw_u_s, hI_1, gw_u_s]; unfold upd; rw [if_neg (by omega), if_pos rfl, d7, Int32.add_zero]; show _ = if _ then _ else _; rw [if_pos ht]
                · rw [hI_2, gw_u_s, hI_1, gw_u_s]; unfold upd; rw [if_pos rfl, if_neg (by omega), d8]; show _ = if _ then _ else _; rw [if_pos ht]
          have t236 : ∀ bh : Bool, bh = decide (gz_M I 3 k ≤ (if A g k < B g k then B g k else A g k)) → gw_E V 154 (236, [(0, .ref 126), (1, .int (Int32.ofNat (gq_hr h0 L a))), (2, .int (Int32.ofNat (gq_hr h0 L b))), (3, .int (Int32.ofNat c2)), (4, .int (Int32.ofNat (h0 + g))), (5, .int (Int32.ofNat k)), (6, .int (A g k)), (7, .int (B g k))], [.int (gz_b bh), .int (Int32.ofNat k), .ref 126], gS n I2 J, 0, 0) (mq_rt n I J N h0 L bc c2 a b) := by
            intro bh hbh
            have hdu : gq_due (gz_M I2) k bh (decide (gz_M I 1 (h0 + g) = 1)) = gq_du (gz_M I) h0 (A g k) (B g k) g k := by rw [hM2, hbh]; rfl
            refine gs_aload_n (pc := 236) (gd gk_154 130 rfl) rfl ?_
            refine gs_getR (r := 128) (pc := 237) (gd gk_154 131 rfl) rfl rfl rfl (by decide) ?_
            refine gs_iload (pc := 240) (gd gk_154 132 rfl) rfl ?_
            refine gs_ialoadK ((h0 + g)) (8) (pc := 242) (gd gk_154 133 rfl) (Or.inl rfl) rfl (by decide) (by first | rfl | (simp only [Int32.ofNat_add, Int32.ofNat_mul]; rfl) | (simp only [Int32.ofNat_add, Int32.ofNat_mul])) (by omega) ?_
            refine gs_as (gz_M I 1 (h0 + g)) (ebl) ?_
            refine gs_callV (as := [.int (Int32.ofNat k), .int (gz_b bh), .int (gz_M I 1 (h0 + g))]) (pc := 243) (gd gk_154 134 rfl) (by decide) rfl (by decide) rfl rfl (Nat.le_of_ble_eq_true rfl) gq_154_126 (Nat.le_of_ble_eq_true rfl) (m_pays k (by omega) bh (gz_M I 1 (h0 + g)) (by rw [h129]; exact hk9.2.2.2)) (fun r_243 w_243 q_243 => ?_)
            obtain ⟨rfl, rfl⟩ := q_243
            rw [hdu]
            refine gs_istore (ls2 := fun v => [(0, .ref (126)), (1, .int (Int32.ofNat (gq_hr h0 L a))), (2, .int (Int32.ofNat (gq_hr h0 L b))), (3, .int (Int32.ofNat c2)), (4, .int (Int32.ofNat (h0 + g))), (5, .int (Int32.ofNat k)), (6, .int (A g k)), (7, .int (B g k)), (8, .int (v))]) (pc := 246) (gd gk_154 135 rfl) (by rw [gL_154]; decide) (fun _ => rfl) (fun v8_1 hv8_1 => ?_)
            obtain rfl := hv8_1
            refine gs_iload (pc := 248) (gd gk_154 136 rfl) rfl ?_
            refine gs_if_le (pc := 250) (gd gk_154 137 rfl) (fun c250 => ?_) (fun c250 => ?_)
            · -- end 1: stop, pc 264, locals [(0, .ref (126)), (1, .int (Int32.ofNat (gq_hr h0 L a))), (2, .int (Int32.ofNat (gq_hr h0 L b))), (3, .int (Int32.ofNat c2)), (4, .int (Int32.ofNat (h0 + g))), (5, .int (Int32.ofNat k)), (6, .int (A g k)), (7, .int (B g k)), (8, .int (gq_du (gz_M I) h0 (A g k) (B g k) g k))]
              exact t265f (by unfold gq_ts; rw [decide_eq_false (Int32.not_lt.mpr c250)]; rfl)
            · refine gs_iload (pc := 253) (gd gk_154 138 rfl) rfl ?_
              refine gs_iload (pc := 255) (gd gk_154 139 rfl) rfl ?_
              refine gs_icmp_le (pc := 257) (gd gk_154 140 rfl) (fun c257 => ?_) (fun c257 => ?_)
              · -- end 2: stop, pc 264, locals [(0, .ref (126)), (1, .int (Int32.ofNat (gq_hr h0 L a))), (2, .int (Int32.ofNat (gq_hr h0 L b))), (3, .int (Int32.ofNat c2)), (4, .int (Int32.ofNat (h0 + g))), (5, .int (Int32.ofNat k)), (6, .int (A g k)), (7, .int (B g k)), (8, .int (gq_du (gz_M I) h0 (A g k) (B g k) g k))]
                exact t265f (by unfold gq_ts; rw [decide_eq_false (Int32.not_lt.mpr c257), Bool.and_false])
              · -- end 3: stop, pc 260, locals [(0, .ref (126)), (1, .int (Int32.ofNat (gq_hr h0 L a))), (2, .int (Int32.ofNat (gq_hr h0 L b))), (3, .int (Int32.ofNat c2)), (4, .int (Int32.ofNat (h0 + g))), (5, .int (Int32.ofNat k)), (6, .int (A g k)), (7, .int (B g k)), (8, .int (gq_du (gz_M I) h0 (A g k) (B g k) g k))]
                exact t265t (by unfold gq_ts; rw [decide_eq_true (Int32.not_le.mp c250), decide_eq_true (Int32.not_le.mp c257)]; rfl)
          refine gs_iload (pc := 153) (gd gk_154 82 rfl) rfl ?_
          refine gs_aload_n (pc := 155) (gd gk_154 83 rfl) rfl ?_
          refine gs_getI (pc := 156) (gd gk_154 84 rfl) rfl rfl ?_
          refine gs_as (Int32.ofNat N) (hN2) ?_
          refine gs_icmp_ge (pc := 159) (gd gk_154 85 rfl) (fun c159 => ?_) (fun c159 => ?_)
          · replace c159 : N ≤ k := (zle (k := N) (m := k) (by omega) (by omega)).mp c159
            -- end 1: stop, pc 313, locals [(0, .ref (126)), (1, .int (Int32.ofNat (gq_hr h0 L a))), (2, .int (Int32.ofNat (gq_hr h0 L b))), (3, .int (Int32.ofNat c2)), (4, .int (Int32.ofNat (h0 + g))), (5, .int (Int32.ofNat k))]
            exact absurd c159 (by omega)
          · replace c159 : ¬ (N ≤ k) := fun q9 => c159 ((zle (k := N) (m := k) (by omega) (by omega)).mpr q9)
            refine gs_aload_n (pc := 162) (gd gk_154 86 rfl) rfl ?_
            refine gs_getR (r := 133) (pc := 163) (gd gk_154 87 rfl) rfl rfl rfl (by decide) ?_
            refine gs_bipush (pc := 166) (gd gk_154 88 rfl) (13) rfl ?_
            refine gs_aload_n (pc := 168) (gd gk_154 89 rfl) rfl ?_
            refine gs_getR (r := 129) (pc := 169) (gd gk_154 90 rfl) rfl rfl rfl (by decide) ?_
            refine gs_iconst (pc := 172) (gd gk_154 91 rfl) (4) rfl ?_
            refine gs_iload (pc := 173) (gd gk_154 92 rfl) rfl ?_
            refine gs_imul (pc := 175) (gd gk_154 93 rfl) ?_
            refine gs_ialoadK ((4 * k)) (24) (pc := 176) (gd gk_154 94 rfl) (Or.inl rfl) rfl (by decide) (by first | rfl | (simp only [Int32.ofNat_add, Int32.ofNat_mul]; rfl) | (simp only [Int32.ofNat_add, Int32.ofNat_mul])) (by omega) ?_
            refine gs_as (Int32.ofNat cc) (hcc) ?_
            refine gs_iadd (pc := 177) (gd gk_154 95 rfl) ?_
            refine gs_ialoadK ((13 + cc)) (52) (pc := 178) (gd gk_154 96 rfl) (Or.inl rfl) rfl (by decide) (by first | rfl | (simp only [Int32.ofNat_add, Int32.ofNat_mul]; rfl) | (simp only [Int32.ofNat_add, Int32.ofNat_mul])) (by omega) ?_
            refine gs_istore (ls2 := fun v => [(0, .ref (126)), (1, .int (Int32.ofNat (gq_hr h0 L a))), (2, .int (Int32.ofNat (gq_hr h0 L b))), (3, .int (Int32.ofNat c2)), (4, .int (Int32.ofNat (h0 + g))), (5, .int (Int32.ofNat k)), (6, .int (v))]) (pc := 179) (gd gk_154 97 rfl) (by rw [gL_154]; decide) (fun _ => rfl) (fun v6_1 hv6_1 => ?_)
            obtain rfl : v6_1 = A g k := hv6_1.trans eA
            refine gs_aload_n (pc := 181) (gd gk_154 98 rfl) rfl ?_
            refine gs_getR (r := 133) (pc := 182) (gd gk_154 99 rfl) rfl rfl rfl (by decide) ?_
            refine gs_bipush (pc := 185) (gd gk_154 100 rfl) (26) rfl ?_
            refine gs_aload_n (pc := 187) (gd gk_154 101 rfl) rfl ?_
            refine gs_getR (r := 129) (pc := 188) (gd gk_154 102 rfl) rfl rfl rfl (by decide) ?_
            refine gs_iconst (pc := 191) (gd gk_154 103 rfl) (4) rfl ?_
            refine gs_iload (pc := 192) (gd gk_154 104 rfl) rfl ?_
            refine gs_imul (pc := 194) (gd gk_154 105 rfl) ?_
            refine gs_ialoadK ((4 * k)) (24) (pc := 195) (gd gk_154 106 rfl) (Or.inl rfl) rfl (by decide) (by first | rfl | (simp only [Int32.ofNat_add, Int32.ofNat_mul]; rfl) | (simp only [Int32.ofNat_add, Int32.ofNat_mul])) (by omega) ?_
            refine gs_as (Int32.ofNat cc) (hcc) ?_
            refine gs_iadd (pc := 196) (gd gk_154 107 rfl) ?_
            refine gs_ialoadK ((26 + cc)) (52) (pc := 197) (gd gk_154 108 rfl) (Or.inl rfl) rfl (by decide) (by first | rfl | (simp only [Int32.ofNat_add, Int32.ofNat_mul]; rfl) | (simp only [Int32.ofNat_add, Int32.ofNat_mul])) (by omega) ?_
            refine gs_istore (ls2 := fun v => [(0, .ref (126)), (1, .int (Int32.ofNat (gq_hr h0 L a))), (2, .int (Int32.ofNat (gq_hr h0 L b))), (3, .int (Int32.ofNat c2)), (4, .int (Int32.ofNat (h0 + g))), (5, .int (Int32.ofNat k)), (6, .int (A g k)), (7, .int (v))]) (pc := 198) (gd gk_154 109 rfl) (by rw [gL_154]; decide) (fun _ => rfl) (fun v7_1 hv7_1 => ?_)
            obtain rfl : v7_1 = B g k := hv7_1.trans eB
            refine gs_aload_n (pc := 200) (gd gk_154 110 rfl) rfl ?_
            refine gs_iload (pc := 201) (gd gk_154 111 rfl) rfl ?_
            refine gs_iload (pc := 203) (gd gk_154 112 rfl) rfl ?_
            refine gs_iload (pc := 205) (gd gk_154 113 rfl) rfl ?_
            refine gs_icmp_le (pc := 207) (gd gk_154 114 rfl) (fun c207 => ?_) (fun c207 => ?_)
            · refine gs_iload (pc := 215) (gd gk_154 117 rfl) rfl ?_
              refine gs_aload_n (pc := 217) (gd gk_154 118 rfl) rfl ?_
              refine gs_getR (r := 129) (pc := 218) (gd gk_154 119 rfl) rfl rfl rfl (by decide) ?_
              refine gs_iconst (pc := 221) (gd gk_154 120 rfl) (4) rfl ?_
              refine gs_iload (pc := 222) (gd gk_154 121 rfl) rfl ?_
              refine gs_imul (pc := 224) (gd gk_154 122 rfl) ?_
              refine gs_iconst (pc := 225) (gd gk_154 123 rfl) (1) rfl ?_
              refine gs_iadd (pc := 226) (gd gk_154 124 rfl) ?_
              refine gs_ialoadK (((4 * k) + 1)) (24) (pc := 227) (gd gk_154 125 rfl) (Or.inl rfl) rfl (by decide) (by first | rfl | (simp only [Int32.ofNat_add, Int32.ofNat_mul]; rfl) | (simp only [Int32.ofNat_add, Int32.ofNat_mul])) (by omega) ?_
              refine gs_as (gz_M I 3 k) (e3) ?_
              refine gs_icmp_lt (pc := 228) (gd gk_154 126 rfl) (fun c228 => ?_) (fun c228 => ?_)
              · refine gs_iconst (pc := 235) (gd gk_154 129 rfl) (0) rfl ?_
                -- end 2: stop, pc 236, locals [(0, .ref (126)), (1, .int (Int32.ofNat (gq_hr h0 L a))), (2, .int (Int32.ofNat (gq_hr h0 L b))), (3, .int (Int32.ofNat c2)), (4, .int (Int32.ofNat (h0 + g))), (5, .int (Int32.ofNat k)), (6, .int (A g k)), (7, .int (B g k))]
                exact t236 false (by rw [← gq_mx2, if_pos c207]; exact (decide_eq_false (Int32.not_le.mpr c228)).symm)
              · refine gs_iconst (pc := 231) (gd gk_154 127 rfl) (1) rfl ?_
                refine gs_goto (pc := 232) (gd gk_154 128 rfl) ?_
                -- end 3: stop, pc 236, locals [(0, .ref (126)), (1, .int (Int32.ofNat (gq_hr h0 L a))), (2, .int (Int32.ofNat (gq_hr h0 L b))), (3, .int (Int32.ofNat c2)), (4, .int (Int32.ofNat (h0 + g))), (5, .int (Int32.ofNat k)), (6, .int (A g k)), (7, .int (B g k))]
                exact t236 true (by rw [← gq_mx2, if_pos c207]; exact (decide_eq_true (Int32.not_lt.mp c228)).symm)
            · refine gs_iload (pc := 210) (gd gk_154 115 rfl) rfl ?_
              refine gs_goto (pc := 212) (gd gk_154 116 rfl) ?_
              refine gs_aload_n (pc := 217) (gd gk_154 118 rfl) rfl ?_
              refine gs_getR (r := 129) (pc := 218) (gd gk_154 119 rfl) rfl rfl rfl (by decide) ?_
              refine gs_iconst (pc := 221) (gd gk_154 120 rfl) (4) rfl ?_
              refine gs_iload (pc := 222) (gd gk_154 121 rfl) rfl ?_
              refine gs_imul (pc := 224) (gd gk_154 122 rfl) ?_
              refine gs_iconst (pc := 225) (gd gk_154 123 rfl) (1) rfl ?_
              refine gs_iadd (pc := 226) (gd gk_154 124 rfl) ?_
              refine gs_ialoadK (((4 * k) + 1)) (24) (pc := 227) (gd gk_154 125 rfl) (Or.inl rfl) rfl (by decide) (by first | rfl | (simp only [Int32.ofNat_add, Int32.ofNat_mul]; rfl) | (simp only [Int32.ofNat_add, Int32.ofNat_mul])) (by omega) ?_
              refine gs_as (gz_M I 3 k) (e3) ?_
              refine gs_icmp_lt (pc := 228) (gd gk_154 126 rfl) (fun c228 => ?_) (fun c228 => ?_)
              · refine gs_iconst (pc := 235) (gd gk_154 129 rfl) (0) rfl ?_
                -- end 4: stop, pc 236, locals [(0, .ref (126)), (1, .int (Int32.ofNat (gq_hr h0 L a))), (2, .int (Int32.ofNat (gq_hr h0 L b))), (3, .int (Int32.ofNat c2)), (4, .int (Int32.ofNat (h0 + g))), (5, .int (Int32.ofNat k)), (6, .int (A g k)), (7, .int (B g k))]
                exact t236 false (by rw [← gq_mx2, if_neg c207]; exact (decide_eq_false (Int32.not_le.mpr c228)).symm)
              · refine gs_iconst (pc := 231) (gd gk_154 127 rfl) (1) rfl ?_
                refine gs_goto (pc := 232) (gd gk_154 128 rfl) ?_
                -- end 5: stop, pc 236, locals [(0, .ref (126)), (1, .int (Int32.ofNat (gq_hr h0 L a))), (2, .int (Int32.ofNat (gq_hr h0 L b))), (3, .int (Int32.ofNat c2)), (4, .int (Int32.ofNat (h0 + g))), (5, .int (Int32.ofNat k)), (6, .int (A g k)), (7, .int (B g k))]
                exact t236 true (by rw [← gq_mx2, if_neg c207]; exact (decide_eq_true (Int32.not_lt.mp c228)).symm)
      have j147 : ∀ Ia (bs : Int32), ((∀ c, c < 10 → Ia 133 (13 * 1 + c) = gq_st (gz_M I1) (gq_w0 (gz_M I) h0 g) (decide (g = a)) bc (I1 133 (13 * 1 + 10)) (gz_L I1 1) c) ∧ (∀ q, ¬ (13 * 1 ≤ q ∧ q < 13 * 1 + 10) → Ia 133 q = I1 133 q) ∧ ∀ p, p ≠ 133 → p ≠ 135 → Ia p = I1 p) → bs = (if decide (g = b) then Int32.ofNat c2 else -99) → gw_E V 154 (147, [(0, .ref 126), (1, .int (Int32.ofNat (gq_hr h0 L a))), (2, .int (Int32.ofNat (gq_hr h0 L b))), (3, .int (Int32.ofNat c2)), (4, .int (Int32.ofNat (h0 + g)))], [.int bs, .int (gq_w0 (gz_M I) h0 g), .int 2, .ref 126], gS n Ia J, 0, 0) (mq_rt n I J N h0 L bc c2 a b) := by
        intro Ia bs ⟨k1, k2, k3⟩ hbs
        have hMa : gz_M Ia = gz_M I := (gz_M_eq (fun k _ => by rw [k3 126 (by omega) (by omega)]) (k3 127 (by omega) (by omega)) (k3 129 (by omega) (by omega))).trans hM1
        have hLb : ∀ c, c < 10 → gz_L Ia 2 c = gq_sq (gz_M I) (gq_w0 (gz_M I) h0) (fun q => decide (q = b)) c2 (I 133 10) (fun _ => 0) g c := fun c hc => by
          show Ia 133 (13 * 2 + c) = _
          rw [k2 _ (by omega)]; exact g4 c hc
        have hLa : ∀ c, c < 10 → gz_L I1 1 c = gq_sq (gz_M I) (gq_w0 (gz_M I) h0) (fun q => decide (q = a)) bc (I 133 10) (I 133) g c := g3
        refine gs_callV (as := [.int (2), .int (gq_w0 (gz_M I) h0 g), .int (bs)]) (pc := 147) (gd gk_154 79 rfl) (by decide) rfl (by decide) rfl rfl (Nat.le_of_ble_eq_true rfl) gq_154_125 (Nat.le_of_ble_eq_true rfl) (m_drift 2 (by omega) (gq_w0 (gz_M I) h0 g) bs (decide (g = b)) c2 hc2 hbs hwd) (fun r_147 w_147 q_147 => ?_)
        obtain ⟨rfl, I_b, rfl, b1, b2, b3⟩ := q_147
        refine gs_iconst (pc := 150) (gd gk_154 80 rfl) (0) rfl ?_
        refine gs_istore (ls2 := fun v => [(0, .ref (126)), (1, .int (Int32.ofNat (gq_hr h0 L a))), (2, .int (Int32.ofNat (gq_hr h0 L b))), (3, .int (Int32.ofNat c2)), (4, .int (Int32.ofNat (h0 + g))), (5, .int (v))]) (pc := 151) (gd gk_154 81 rfl) (by rw [gL_154]; decide) (fun _ => rfl) (fun v5_1 hv5_1 => ?_)
        obtain rfl : v5_1 = Int32.ofNat 0 := hv5_1.trans (by first | rfl | (simp only [Int32.ofNat_add, Int32.ofNat_mul]; rfl) | (simp only [Int32.ofNat_add, Int32.ofNat_mul]))
        -- end 1: stop, pc 153, locals [(0, .ref (126)), (1, .int (Int32.ofNat (gq_hr h0 L a))), (2, .int (Int32.ofNat (gq_hr h0 L b))), (3, .int (Int32.ofNat c2)), (4, .int (Int32.ofNat (h0 + g))), (5, .int (Int32.ofNat 0))]
        have o : ∀ p, p ≠ 133 → p ≠ 135 → I_b p = I1 p := fun p q1 q2 => (b3 p q1 q2).trans (k3 p q1 q2)
        refine klp N 0 (by omega) I_b ⟨fun p q1 q2 q3 q4 => by rw [o p q3 q4]; exact g1.1 p q1 q2 q3 q4, fun q hq => by rw [b2 q (by omega), k2 q (by omega)]; exact g1.2.1 q hq, fun q q1 q2 => by rw [o 126 (by omega) (by omega)]; exact g1.2.2 q q1 q2⟩ (fun h hh => by rw [o 128 (by omega) (by omega)]; exact g2 h hh) (fun c hc => ?_) (fun c hc => ?_) (by rw [b2 23 (by omega), k2 23 (by omega)]; exact g5) (by rw [b2 36 (by omega), k2 36 (by omega)]; exact g6) (by rw [o 126 (by omega) (by omega)]; exact g7) (by rw [o 126 (by omega) (by omega)]; exact g8)
        · rw [b2 _ (by omega), show 13 + c = 13 * 1 + c from rfl, k1 c hc, hM1, show I1 133 (13 * 1 + 10) = I 133 10 from g5, gq_st_c hLa]; rfl
        · rw [show 26 + c = 13 * 2 + c from rfl, b1 c hc, hMa, show Ia 133 (13 * 2 + 10) = I 133 10 from by rw [k2 _ (by omega)]; exact g6, gq_st_c hLb]; rfl
      refine gs_iload (pc := 90) (gd gk_154 49 rfl) rfl ?_
      refine gs_aload_n (pc := 92) (gd gk_154 50 rfl) rfl ?_
      refine gs_getI (pc := 93) (gd gk_154 51 rfl) rfl rfl ?_
      refine gs_as (Int32.ofNat W) (hW31) ?_
      refine gs_icmp_ge (pc := 96) (gd gk_154 52 rfl) (fun c96 => ?_) (fun c96 => ?_)
      · replace c96 : W ≤ (h0 + g) := (zle (k := W) (m := (h0 + g)) (by omega) (by omega)).mp c96
        -- end 1: return, pc 319, locals [(0, .ref (126)), (1, .int (Int32.ofNat (gq_hr h0 L a))), (2, .int (Int32.ofNat (gq_hr h0 L b))), (3, .int (Int32.ofNat c2)), (4, .int (Int32.ofNat (h0 + g)))]
        exact absurd c96 (by omega)
      · replace c96 : ¬ (W ≤ (h0 + g)) := fun q9 => c96 ((zle (k := W) (m := (h0 + g)) (by omega) (by omega)).mpr q9)
        refine gs_aload_n (pc := 99) (gd gk_154 53 rfl) rfl ?_
        refine gs_iconst (pc := 100) (gd gk_154 54 rfl) (1) rfl ?_
        refine gs_aload_n (pc := 101) (gd gk_154 55 rfl) rfl ?_
        refine gs_getR (r := 128) (pc := 102) (gd gk_154 56 rfl) rfl rfl rfl (by decide) ?_
        refine gs_iload (pc := 105) (gd gk_154 57 rfl) rfl ?_
        refine gs_ialoadK ((h0 + g)) (8) (pc := 107) (gd gk_154 58 rfl) (Or.inl rfl) rfl (by decide) (by first | rfl | (simp only [Int32.ofNat_add, Int32.ofNat_mul]; rfl) | (simp only [Int32.ofNat_add, Int32.ofNat_mul])) (by omega) ?_
        refine gs_as (gq_w0 (gz_M I) h0 g) (hwk) ?_
        refine gs_iload (pc := 108) (gd gk_154 59 rfl) rfl ?_
        refine gs_iload_n (pc := 110) (gd gk_154 60 rfl) rfl ?_
        refine gs_icmp_ne (pc := 111) (gd gk_154 61 rfl) (fun c111 => ?_) (fun c111 => ?_)
        · replace c111 : ¬ ((h0 + g) = (gq_hr h0 L a)) := fun q9 => c111 ((zeq (k := (h0 + g)) (m := (gq_hr h0 L a)) (by omega) (by omega)).mpr q9)
          refine gs_bipush (pc := 121) (gd gk_154 65 rfl) (-99) rfl ?_
          refine gs_callV (as := [.int (1), .int (gq_w0 (gz_M I) h0 g), .int ((-99))]) (pc := 123) (gd gk_154 66 rfl) (by decide) rfl (by decide) rfl rfl (Nat.le_of_ble_eq_true rfl) gq_154_125 (Nat.le_of_ble_eq_true rfl) (m_drift 1 (by omega) (gq_w0 (gz_M I) h0 g) ((-99)) (decide (g = a)) bc hb9 (by rw [decide_eq_false (fun q9 => c111 (hpa.mpr q9))]; rfl) hwd) (fun r_123 w_123 q_123 => ?_)
          obtain ⟨rfl, I_d, rfl, hd1, hd2, hd3⟩ := q_123
          refine gs_aload_n (pc := 126) (gd gk_154 67 rfl) rfl ?_
          refine gs_iconst (pc := 127) (gd gk_154 68 rfl) (2) rfl ?_
          refine gs_aload_n (pc := 128) (gd gk_154 69 rfl) rfl ?_
          refine gs_getR (r := 128) (pc := 129) (gd gk_154 70 rfl) rfl rfl rfl (by decide) ?_
          refine gs_iload (pc := 132) (gd gk_154 71 rfl) rfl ?_
          refine gs_ialoadK ((h0 + g)) (8) (pc := 134) (gd gk_154 72 rfl) (Or.inl rfl) rfl (by decide) (by first | rfl | (simp only [Int32.ofNat_add, Int32.ofNat_mul]; rfl) | (simp only [Int32.ofNat_add, Int32.ofNat_mul])) (by omega) ?_
          refine gs_as (gq_w0 (gz_M I) h0 g) (by rw [hd3 128 (by omega) (by omega)]; exact hwk) ?_
          refine gs_iload (pc := 135) (gd gk_154 73 rfl) rfl ?_
          refine gs_iload_n (pc := 137) (gd gk_154 74 rfl) rfl ?_
          refine gs_icmp_ne (pc := 138) (gd gk_154 75 rfl) (fun c138 => ?_) (fun c138 => ?_)
          · replace c138 : ¬ ((h0 + g) = (gq_hr h0 L b)) := fun q9 => c138 ((zeq (k := (h0 + g)) (m := (gq_hr h0 L b)) (by omega) (by omega)).mpr q9)
            refine gs_bipush (pc := 145) (gd gk_154 78 rfl) (-99) rfl ?_
            -- end 2: stop, pc 147, locals [(0, .ref (126)), (1, .int (Int32.ofNat (gq_hr h0 L a))), (2, .int (Int32.ofNat (gq_hr h0 L b))), (3, .int (Int32.ofNat c2)), (4, .int (Int32.ofNat (h0 + g)))]
            exact j147 I_d _ ⟨hd1, hd2, hd3⟩ (by rw [decide_eq_false (fun q9 => c138 (hpb.mpr q9))]; rfl)
          · replace c138 : (h0 + g) = (gq_hr h0 L b) := (zeq (k := (h0 + g)) (m := (gq_hr h0 L b)) (by omega) (by omega)).mp c138
            refine gs_iload_n (pc := 141) (gd gk_154 76 rfl) rfl ?_
            refine gs_goto (pc := 142) (gd gk_154 77 rfl) ?_
            -- end 3: stop, pc 147, locals [(0, .ref (126)), (1, .int (Int32.ofNat (gq_hr h0 L a))), (2, .int (Int32.ofNat (gq_hr h0 L b))), (3, .int (Int32.ofNat c2)), (4, .int (Int32.ofNat (h0 + g)))]
            exact j147 I_d _ ⟨hd1, hd2, hd3⟩ (by rw [decide_eq_true (hpb.mp c138)]; rfl)
        · replace c111 : (h0 + g) = (gq_hr h0 L a) := (zeq (k := (h0 + g)) (m := (gq_hr h0 L a)) (by omega) (by omega)).mp c111
          refine gs_aload_n (pc := 114) (gd gk_154 62 rfl) rfl ?_
          refine gs_getI (pc := 115) (gd gk_154 63 rfl) rfl rfl ?_
          refine gs_as (Int32.ofNat bc) (by rw [g1.2.2 0 (by omega) (by omega)]; exact hbc) ?_
          refine gs_goto (pc := 118) (gd gk_154 64 rfl) ?_
          refine gs_callV (as := [.int (1), .int (gq_w0 (gz_M I) h0 g), .int (Int32.ofNat bc)]) (pc := 123) (gd gk_154 66 rfl) (by decide) rfl (by decide) rfl rfl (Nat.le_of_ble_eq_true rfl) gq_154_125 (Nat.le_of_ble_eq_true rfl) (m_drift 1 (by omega) (gq_w0 (gz_M I) h0 g) (Int32.ofNat bc) (decide (g = a)) bc hb9 (by rw [decide_eq_true (hpa.mp c111)]; rfl) hwd) (fun r_123 w_123 q_123 => ?_)
          obtain ⟨rfl, I_d, rfl, hd1, hd2, hd3⟩ := q_123
          refine gs_aload_n (pc := 126) (gd gk_154 67 rfl) rfl ?_
          refine gs_iconst (pc := 127) (gd gk_154 68 rfl) (2) rfl ?_
          refine gs_aload_n (pc := 128) (gd gk_154 69 rfl) rfl ?_
          refine gs_getR (r := 128) (pc := 129) (gd gk_154 70 rfl) rfl rfl rfl (by decide) ?_
          refine gs_iload (pc := 132) (gd gk_154 71 rfl) rfl ?_
          refine gs_ialoadK ((h0 + g)) (8) (pc := 134) (gd gk_154 72 rfl) (Or.inl rfl) rfl (by decide) (by first | rfl | (simp only [Int32.ofNat_add, Int32.ofNat_mul]; rfl) | (simp only [Int32.ofNat_add, Int32.ofNat_mul])) (by omega) ?_
          refine gs_as (gq_w0 (gz_M I) h0 g) (by rw [hd3 128 (by omega) (by omega)]; exact hwk) ?_
          refine gs_iload (pc := 135) (gd gk_154 73 rfl) rfl ?_
          refine gs_iload_n (pc := 137) (gd gk_154 74 rfl) rfl ?_
          refine gs_icmp_ne (pc := 138) (gd gk_154 75 rfl) (fun c138 => ?_) (fun c138 => ?_)
          · replace c138 : ¬ ((h0 + g) = (gq_hr h0 L b)) := fun q9 => c138 ((zeq (k := (h0 + g)) (m := (gq_hr h0 L b)) (by omega) (by omega)).mpr q9)
            refine gs_bipush (pc := 145) (gd gk_154 78 rfl) (-99) rfl ?_
            -- end 4: stop, pc 147, locals [(0, .ref (126)), (1, .int (Int32.ofNat (gq_hr h0 L a))), (2, .int (Int32.ofNat (gq_hr h0 L b))), (3, .int (Int32.ofNat c2)), (4, .int (Int32.ofNat (h0 + g)))]
            exact j147 I_d _ ⟨hd1, hd2, hd3⟩ (by rw [decide_eq_false (fun q9 => c138 (hpb.mpr q9))]; rfl)
          · replace c138 : (h0 + g) = (gq_hr h0 L b) := (zeq (k := (h0 + g)) (m := (gq_hr h0 L b)) (by omega) (by omega)).mp c138
            refine gs_iload_n (pc := 141) (gd gk_154 76 rfl) rfl ?_
            refine gs_goto (pc := 142) (gd gk_154 77 rfl) ?_
            -- end 5: stop, pc 147, locals [(0, .ref (126)), (1, .int (Int32.ofNat (gq_hr h0 L a))), (2, .int (Int32.ofNat (gq_hr h0 L b))), (3, .int (Int32.ofNat c2)), (4, .int (Int32.ofNat (h0 + g)))]
            exact j147 I_d _ ⟨hd1, hd2, hd3⟩ (by rw [decide_eq_true (hpb.mp c138)]; rfl)
  have j81 : ∀ I1, gm_tf I I1 → (∀ h, h < 8 → I1 128 h = I 127 h) → (∀ c, c < 10 → I1 133 (13 + c) = I 133 c) → (∀ c, c < 10 → I1 133 (26 + c) = 0) → I1 133 23 = I 133 10 → I1 133 36 = I 133 10 → I1 126 30 = x1 → I1 126 31 = x2 → gw_E V 154 (81, [(0, .ref 126), (1, .int (Int32.ofNat (gq_hr h0 L a))), (2, .int (Int32.ofNat (gq_hr h0 L b))), (3, .int (Int32.ofNat c2))], [], gS n I1 J, 0, 0) (mq_rt n I J N h0 L bc c2 a b) := by
    intro I1 g1 g2 g3 g4 g5 g6 g7 g8
    refine gs_aload_n (pc := 81) (gd gk_154 44 rfl) rfl ?_
    refine gs_getR (r := 133) (pc := 82) (gd gk_154 45 rfl) rfl rfl rfl (by decide) ?_
    refine gs_bipush (pc := 85) (gd gk_154 46 rfl) (12) rfl ?_
    refine gs_ialoadK (12) (52) (pc := 87) (gd gk_154 47 rfl) (Or.inl rfl) rfl (by decide) (by first | rfl | (simp only [Int32.ofNat_add, Int32.ofNat_mul]; rfl) | (simp only [Int32.ofNat_add, Int32.ofNat_mul])) (by omega) ?_
    refine gs_as (Int32.ofNat (h0 + 0)) ((g1.2.1 12 (by omega)).trans hh) ?_
    refine gs_istore (ls2 := fun v => [(0, .ref (126)), (1, .int (Int32.ofNat (gq_hr h0 L a))), (2, .int (Int32.ofNat (gq_hr h0 L b))), (3, .int (Int32.ofNat c2)), (4, .int (v))]) (pc := 88) (gd gk_154 48 rfl) (by rw [gL_154]; decide) (fun _ => rfl) (fun v4_1 hv4_1 => ?_)
    obtain rfl : v4_1 = Int32.ofNat (h0 + 0) := hv4_1.trans (by first | rfl | (simp only [Int32.ofNat_add, Int32.ofNat_mul]; rfl) | (simp only [Int32.ofNat_add, Int32.ofNat_mul]))
    -- end 1: stop, pc 90, locals [(0, .ref (126)), (1, .int (Int32.ofNat (gq_hr h0 L a))), (2, .int (Int32.ofNat (gq_hr h0 L b))), (3, .int (Int32.ofNat c2)), (4, .int (Int32.ofNat (h0 + 0)))]
    exact hlp L 0 (by omega) I1 g1 g2 g3 g4 g5 g6 g7 g8
  have zlp : ∀ Iz, gm_tf I Iz → (∀ h, h < 8 → Iz 128 h = I 127 h) → (∀ c, c < 10 → Iz 133 (13 + c) = I 133 c) → Iz 133 23 = I 133 10 → Iz 133 36 = I 133 10 → ∀ (r k : Nat), r + k = 10 → ∀ I1, (∀ q, ¬ (26 ≤ q ∧ q < 36) → I1 133 q = Iz 133 q) → (∀ c, c < k → I1 133 (26 + c) = 0) → (∀ p, p ≠ 133 → I1 p = Iz p) → gw_E V 154 (19, [(0, .ref 126), (1, .int (Int32.ofNat (gq_hr h0 L a))), (2, .int (Int32.ofNat (gq_hr h0 L b))), (3, .int (Int32.ofNat c2)), (4, .int (Int32.ofNat k))], [], gS n I1 J, 0, 0) (mq_rt n I J N h0 L bc c2 a b) := by
    intro Iz z1 z2 z3 z4 z5 r
    induction r with
    | zero =>
      intro k hk I1 g1 g2 g3
      obtain rfl : k = 10 := by omega
      have hT : gm_tf I I1 := ⟨fun p q1 q2 q3 q4 => by rw [g3 p q3]; exact z1.1 p q1 q2 q3 q4, fun q hq => by rw [g1 q (by omega)]; exact z1.2.1 q hq, fun q q1 q2 => by rw [g3 126 (by omega)]; exact z1.2.2 q q1 q2⟩
      have h2 : I1 126 2 = gz_M I 0 2 := hT.2.2 2 (by omega) (by omega)
      have fin : ∀ I2 I3 v1 v2, I2 = gw_u I1 126 30 v1 → I3 = gw_u I2 126 31 v2 → v1 = x1 → v2 = x2 → gw_E V 154 (81, [(0, .ref 126), (1, .int (Int32.ofNat (gq_hr h0 L a))), (2, .int (Int32.ofNat (gq_hr h0 L b))), (3, .int (Int32.ofNat c2))], [], gS n I3 J, 0, 0) (mq_rt n I J N h0 L bc c2 a b) := by
        intro I2 I3 v1 v2 e2 e3 f1 f2
        have o : ∀ p, p ≠ 126 → I3 p = I1 p := fun p hp => by rw [e3, gw_u_o hp, e2, gw_u_o hp]
        refine j81 I3 (gm_tf_tr hT (gm_tf_tr (gm_tf_u e2 (by omega)) (gm_tf_u e3 (by omega)))) (fun h hh => by rw [o 128 (by omega), g3 128 (by omega)]; exact z2 h hh) (fun c hc => by rw [o 133 (by omega), g1 _ (by omega)]; exact z3 c hc) (fun c hc => by rw [o 133 (by omega)]; exact g2 c hc) (by rw [o 133 (by omega), g1 _ (by omega)]; exact z4) (by rw [o 133 (by omega), g1 _ (by omega)]; exact z5) ?_ ?_
        · rw [e3, gw_u_s, e2, gw_u_s]; unfold upd; rw [if_neg (by omega), if_pos rfl, f1]
        · rw [e3, gw_u_s]; unfold upd; rw [if_pos rfl, f2]
      refine gs_iload (pc := 19) (gd gk_154 12 rfl) rfl ?_
      refine gs_bipush (pc := 21) (gd gk_154 13 rfl) (10) rfl ?_
      refine gs_icmp_ge (pc := 23) (gd gk_154 14 rfl) (fun c23 => ?_) (fun c23 => ?_)
      · replace c23 : 10 ≤ 10 := (zle (k := 10) (m := 10) (by omega) (by omega)).mp c23
        refine gs_aload_n (pc := 43) (gd gk_154 24 rfl) rfl ?_
        refine gs_iload_n (pc := 44) (gd gk_154 25 rfl) rfl ?_
        refine gs_bipush (pc := 45) (gd gk_154 26 rfl) (9) rfl ?_
        refine gs_icmp_ge (pc := 47) (gd gk_154 27 rfl) (fun c47 => ?_) (fun c47 => ?_)
        · replace c47 : 9 ≤ (gq_hr h0 L a) := (zle (k := 9) (m := (gq_hr h0 L a)) (by omega) (by omega)).mp c47
          refine gs_iconst (pc := 58) (gd gk_154 32 rfl) (0) rfl ?_
          refine gs_putI (pc := 59) (gd gk_154 33 rfl) rfl rfl rfl rfl (fun I_1 hI_1 => ?_)
          refine gs_aload_n (pc := 62) (gd gk_154 34 rfl) rfl ?_
          refine gs_iload_n (pc := 63) (gd gk_154 35 rfl) rfl ?_
          refine gs_bipush (pc := 64) (gd gk_154 36 rfl) (9) rfl ?_
          refine gs_icmp_ge (pc := 66) (gd gk_154 37 rfl) (fun c66 => ?_) (fun c66 => ?_)
          · replace c66 : 9 ≤ (gq_hr h0 L b) := (zle (k := 9) (m := (gq_hr h0 L b)) (by omega) (by omega)).mp c66
            refine gs_iconst (pc := 77) (gd gk_154 42 rfl) (0) rfl ?_
            refine gs_putI (pc := 78) (gd gk_154 43 rfl) rfl rfl rfl rfl (fun I_2 hI_2 => ?_)
            -- end 1: stop, pc 81, locals [(0, .ref (126)), (1, .int (Int32.ofNat (gq_hr h0 L a))), (2, .int (Int32.ofNat (gq_hr h0 L b))), (3, .int (Int32.ofNat c2)), (4, .int (Int32.ofNat 10))]
            exact gs_drop [0, 1, 2, 3] rfl (fin _ _ _ _ hI_1 hI_2 (by rw [← hx1, if_neg (by omega)]) (by rw [← hx2, if_neg (by omega)]))
          · replace c66 : ¬ (9 ≤ (gq_hr h0 L b)) := fun q9 => c66 ((zle (k := 9) (m := (gq_hr h0 L b)) (by omega) (by omega)).mpr q9)
            refine gs_aload_n (pc := 69) (gd gk_154 38 rfl) rfl ?_
            refine gs_getI (pc := 70) (gd gk_154 39 rfl) rfl rfl ?_
            refine gs_ineg (pc := 73) (gd gk_154 40 rfl) ?_
            refine gs_goto (pc := 74) (gd gk_154 41 rfl) ?_
            refine gs_putI (pc := 78) (gd gk_154 43 rfl) rfl rfl rfl rfl (fun I_3 hI_3 => ?_)
            -- end 2: stop, pc 81, locals [(0, .ref (126)), (1, .int (Int32.ofNat (gq_hr h0 L a))), (2, .int (Int32.ofNat (gq_hr h0 L b))), (3, .int (Int32.ofNat c2)), (4, .int (Int32.ofNat 10))]
            exact gs_drop [0, 1, 2, 3] rfl (fin _ _ _ _ hI_1 hI_3 (by rw [← hx1, if_neg (by omega)]) (by rw [← hx2, if_pos (by omega), hI_1, gw_u_s]; unfold upd; rw [if_neg (by omega), h2]))
        · replace c47 : ¬ (9 ≤ (gq_hr h0 L a)) := fun q9 => c47 ((zle (k := 9) (m := (gq_hr h0 L a)) (by omega) (by omega)).mpr q9)
          refine gs_aload_n (pc := 50) (gd gk_154 28 rfl) rfl ?_
          refine gs_getI (pc := 51) (gd gk_154 29 rfl) rfl rfl ?_
          refine gs_ineg (pc := 54) (gd gk_154 30 rfl) ?_
          refine gs_goto (pc := 55) (gd gk_154 31 rfl) ?_
          refine gs_putI (pc := 59) (gd gk_154 33 rfl) rfl rfl rfl rfl (fun I_4 hI_4 => ?_)
          refine gs_aload_n (pc := 62) (gd gk_154 34 rfl) rfl ?_
          refine gs_iload_n (pc := 63) (gd gk_154 35 rfl) rfl ?_
          refine gs_bipush (pc := 64) (gd gk_154 36 rfl) (9) rfl ?_
          refine gs_icmp_ge (pc := 66) (gd gk_154 37 rfl) (fun c66 => ?_) (fun c66 => ?_)
          · replace c66 : 9 ≤ (gq_hr h0 L b) := (zle (k := 9) (m := (gq_hr h0 L b)) (by omega) (by omega)).mp c66
            refine gs_iconst (pc := 77) (gd gk_154 42 rfl) (0) rfl ?_
            refine gs_putI (pc := 78) (gd gk_154 43 rfl) rfl rfl rfl rfl (fun I_5 hI_5 => ?_)
            -- end 3: stop, pc 81, locals [(0, .ref (126)), (1, .int (Int32.ofNat (gq_hr h0 L a))), (2, .int (Int32.ofNat (gq_hr h0 L b))), (3, .int (Int32.ofNat c2)), (4, .int (Int32.ofNat 10))]
            exact gs_drop [0, 1, 2, 3] rfl (fin _ _ _ _ hI_4 hI_5 (by rw [← hx1, if_pos (by omega), h2]) (by rw [← hx2, if_neg (by omega)]))
          · replace c66 : ¬ (9 ≤ (gq_hr h0 L b)) := fun q9 => c66 ((zle (k := 9) (m := (gq_hr h0 L b)) (by omega) (by omega)).mpr q9)
            refine gs_aload_n (pc := 69) (gd gk_154 38 rfl) rfl ?_
            refine gs_getI (pc := 70) (gd gk_154 39 rfl) rfl rfl ?_
            refine gs_ineg (pc := 73) (gd gk_154 40 rfl) ?_
            refine gs_goto (pc := 74) (gd gk_154 41 rfl) ?_
            refine gs_putI (pc := 78) (gd gk_154 43 rfl) rfl rfl rfl rfl (fun I_6 hI_6 => ?_)
            -- end 4: stop, pc 81, locals [(0, .ref (126)), (1, .int (Int32.ofNat (gq_hr h0 L a))), (2, .int (Int32.ofNat (gq_hr h0 L b))), (3, .int (Int32.ofNat c2)), (4, .int (Int32.ofNat 10))]
            exact gs_drop [0, 1, 2, 3] rfl (fin _ _ _ _ hI_4 hI_6 (by rw [← hx1, if_pos (by omega), h2]) (by rw [← hx2, if_pos (by omega), hI_4, gw_u_s]; unfold upd; rw [if_neg (by omega), h2]))
      · replace c23 : ¬ (10 ≤ 10) := fun q9 => c23 ((zle (k := 10) (m := 10) (by omega) (by omega)).mpr q9)
        -- end 5: stop, pc 26, locals [(0, .ref (126)), (1, .int (Int32.ofNat (gq_hr h0 L a))), (2, .int (Int32.ofNat (gq_hr h0 L b))), (3, .int (Int32.ofNat c2)), (4, .int (Int32.ofNat 10))]
        exact absurd (Nat.le_refl _) c23
    | succ r ih =>
      intro k hk I1 g1 g2 g3
      refine gs_iload (pc := 19) (gd gk_154 12 rfl) rfl ?_
      refine gs_bipush (pc := 21) (gd gk_154 13 rfl) (10) rfl ?_
      refine gs_icmp_ge (pc := 23) (gd gk_154 14 rfl) (fun c23 => ?_) (fun c23 => ?_)
      · replace c23 : 10 ≤ k := (zle (k := 10) (m := k) (by omega) (by omega)).mp c23
        -- end 1: stop, pc 43, locals [(0, .ref (126)), (1, .int (Int32.ofNat (gq_hr h0 L a))), (2, .int (Int32.ofNat (gq_hr h0 L b))), (3, .int (Int32.ofNat c2)), (4, .int (Int32.ofNat k))]
        exact absurd c23 (by omega)
      · replace c23 : ¬ (10 ≤ k) := fun q9 => c23 ((zle (k := 10) (m := k) (by omega) (by omega)).mpr q9)
        refine gs_aload_n (pc := 26) (gd gk_154 15 rfl) rfl ?_
        refine gs_getR (r := 133) (pc := 27) (gd gk_154 16 rfl) rfl rfl rfl (by decide) ?_
        refine gs_bipush (pc := 30) (gd gk_154 17 rfl) (26) rfl ?_
        refine gs_iload (pc := 32) (gd gk_154 18 rfl) rfl ?_
        refine gs_iadd (pc := 34) (gd gk_154 19 rfl) ?_
        refine gs_iconst (pc := 35) (gd gk_154 20 rfl) (0) rfl ?_
        refine gs_iastoreK ((26 + k)) (52) gs_sl (pc := 36) (gd gk_154 21 rfl) rfl rfl (by decide) (by first | rfl | (simp only [Int32.ofNat_add, Int32.ofNat_mul]; rfl) | (simp only [Int32.ofNat_add, Int32.ofNat_mul])) (by omega) (fun I_1 hI_1 => ?_)
        refine gs_iinc (ls2 := fun v => [(0, .ref (126)), (1, .int (Int32.ofNat (gq_hr h0 L a))), (2, .int (Int32.ofNat (gq_hr h0 L b))), (3, .int (Int32.ofNat c2)), (4, .int (v))]) (pc := 37) (gd gk_154 22 rfl) rfl (by rw [gL_154]; decide) (fun _ => rfl) (1) rfl (fun v4_1 hv4_1 => ?_)
        obtain rfl : v4_1 = Int32.ofNat (k + 1) := hv4_1.trans (by first | rfl | (simp only [Int32.ofNat_add, Int32.ofNat_mul]; rfl) | (simp only [Int32.ofNat_add, Int32.ofNat_mul]))
        refine gs_goto (pc := 40) (gd gk_154 23 rfl) ?_
        -- end 2: stop, pc 19, locals [(0, .ref (126)), (1, .int (Int32.ofNat (gq_hr h0 L a))), (2, .int (Int32.ofNat (gq_hr h0 L b))), (3, .int (Int32.ofNat c2)), (4, .int (Int32.ofNat (k + 1)))]
        refine ih (k + 1) (by omega) I_1 (fun q hq => ?_) (fun c hc => ?_) (fun p hp => by rw [hI_1, gw_u_o hp]; exact g3 p hp)
        · rw [hI_1, gw_u_s]; unfold upd; rw [if_neg (by omega)]; exact g1 q hq
        · rw [hI_1, gw_u_s]; unfold upd
          by_cases e : c = k
          · rw [e, if_pos rfl]
          · rw [if_neg (by omega)]; exact g2 c (by omega)
  refine gs_aload_n (pc := 0) (gd gk_154 0 rfl) rfl ?_
  refine gs_callV (as := []) (pc := 1) (gd gk_154 1 rfl) (by decide) rfl (by decide) rfl rfl (Nat.le_of_ble_eq_true rfl) gq_154_128 (Nat.le_of_ble_eq_true rfl) (m_winds) (fun r_1 w_1 q_1 => ?_)
  obtain ⟨rfl, I_w, rfl, w1, w2⟩ := q_1
  refine gs_aload_n (pc := 4) (gd gk_154 2 rfl) rfl ?_
  refine gs_iconst (pc := 5) (gd gk_154 3 rfl) (0) rfl ?_
  refine gs_iconst (pc := 6) (gd gk_154 4 rfl) (1) rfl ?_
  refine gs_callV (as := [.int (0), .int (1)]) (pc := 7) (gd gk_154 5 rfl) (by decide) rfl (by decide) rfl rfl (Nat.le_of_ble_eq_true rfl) gq_154_129 (Nat.le_of_ble_eq_true rfl) (m_lay 0 1 (by omega) (by omega) (by omega)) (fun r_7 w_7 q_7 => ?_)
  obtain ⟨rfl, I_l, rfl, l1, l2, l3⟩ := q_7
  refine gs_aload_n (pc := 10) (gd gk_154 6 rfl) rfl ?_
  refine gs_iconst (pc := 11) (gd gk_154 7 rfl) (0) rfl ?_
  refine gs_iconst (pc := 12) (gd gk_154 8 rfl) (2) rfl ?_
  refine gs_callV (as := [.int (0), .int (2)]) (pc := 13) (gd gk_154 9 rfl) (by decide) rfl (by decide) rfl rfl (Nat.le_of_ble_eq_true rfl) gq_154_129 (Nat.le_of_ble_eq_true rfl) (m_lay 0 2 (by omega) (by omega) (by omega)) (fun r_13 w_13 q_13 => ?_)
  obtain ⟨rfl, I_k, rfl, k1, k2, k3⟩ := q_13
  refine gs_iconst (pc := 16) (gd gk_154 10 rfl) (0) rfl ?_
  refine gs_istore (ls2 := fun v => [(0, .ref (126)), (1, .int (Int32.ofNat (gq_hr h0 L a))), (2, .int (Int32.ofNat (gq_hr h0 L b))), (3, .int (Int32.ofNat c2)), (4, .int (v))]) (pc := 17) (gd gk_154 11 rfl) (by rw [gL_154]; decide) (fun _ => rfl) (fun v4_1 hv4_1 => ?_)
  obtain rfl : v4_1 = Int32.ofNat 0 := hv4_1.trans (by first | rfl | (simp only [Int32.ofNat_add, Int32.ofNat_mul]; rfl) | (simp only [Int32.ofNat_add, Int32.ofNat_mul]))
  -- end 1: stop, pc 19, locals [(0, .ref (126)), (1, .int (Int32.ofNat (gq_hr h0 L a))), (2, .int (Int32.ofNat (gq_hr h0 L b))), (3, .int (Int32.ofNat c2)), (4, .int (Int32.ofNat 0))]
  have e133 : I_w 133 = I 133 := w2 133 (by omega)
  have o : ∀ p, p ≠ 133 → p ≠ 128 → I_k p = I p := fun p q1 q2 => by rw [k3 p q1, l3 p q1, w2 p q2]
  refine zlp I_k ⟨fun p _ q2 q3 _ => o p q3 q2, fun q hq => by rw [k2 q (by omega), l2 q (by omega), e133], fun q _ _ => by rw [o 126 (by omega) (by omega)]⟩ (fun h hh => by rw [k3 128 (by omega), l3 128 (by omega)]; exact w1 h hh) (fun c hc => ?_) ?_ ?_ 10 0 (by omega) I_k (fun _ _ => rfl) (fun c hc => absurd hc (Nat.not_lt_zero _)) (fun _ _ => rfl)
  · rw [k2 _ (by omega), show 13 + c = 13 * 1 + c from rfl, l1 c (by omega), Nat.mul_zero, Nat.zero_add, e133]
  · rw [k2 _ (by omega), show 23 = 13 * 1 + 10 from rfl, l1 10 (by omega), Nat.mul_zero, Nat.zero_add, e133]
  · rw [show 36 = 13 * 2 + 10 from rfl, k1 10 (by omega), Nat.mul_zero, Nat.zero_add, l2 _ (by omega), e133]
end
