/-! ===== mornings: the reference ===== -/
section
variable {V : gw_V} {n W N h0 L bc : Nat} {I : Nat → Nat → Int32} {J : Nat → Nat → Int64}
abbrev mq_ms (n : Nat) (I : Nat → Nat → Int32) (J : Nat → Nat → Int64) (N h0 L bc : Nat) (a : Int32) : Option Value → gw_W → Prop := fun v w' => ∃ I2 J2, w' = gS n I2 J2 ∧ gm_qf I I2 ∧ (∀ p q, ¬ (p = 126 ∧ q = 34) → J2 p q = J p q) ∧ if 1 ≤ a ∧ a ≤ 20 then v = some (.int (gz_ms (gz_M I) N h0 L bc (I 133 10) (I 133) (J 126 34) a.toNatClampNeg)) ∧ J2 126 34 = gz_sd (J 126 34) (a.toNatClampNeg * L) else v = some (.int (-1000002)) ∧ J2 126 34 = J 126 34
theorem m_mornings (a : Int32) (hn : gm_now I W N h0 L bc) : gw_E V 159 (0, [(0, .ref 126), (1, .int a)], [], gS n I J, 0, 0) (mq_ms n I J N h0 L bc a) := by
  obtain ⟨hok, hh, hW, hbc, hb9⟩ := id hn
  obtain ⟨hW0, hW8, hN, hN6, -, -, -, hwnd, hns⟩ := id hok
  by_cases hx : 1 ≤ a ∧ a ≤ 20
  · obtain ⟨e, rfl, he1, he2⟩ := zsm (b := 20) (by decide) hx
    have lp : ∀ I0, gm_qf I I0 → (∀ h, h < 8 → I0 128 h = I 127 h) → ∀ (m k : Nat), m + k = e → ∀ I1 J1 y, gm_rf I0 I1 → y = gz_ms (gz_M I) N h0 L bc (I 133 10) (I 133) (J 126 34) k → J1 126 34 = gz_sd (J 126 34) (k * L) → (∀ p q, ¬ (p = 126 ∧ q = 34) → J1 p q = J p q) → gw_E V 159 (23, [(0, .ref 126), (1, .int (Int32.ofNat e)), (2, .int y), (3, .int (Int32.ofNat k))], [], gS n I1 J1, 0, 0) (mq_ms n I J N h0 L bc (Int32.ofNat e)) := by
      intro I0 z1 z2 m
      induction m with
      | zero =>
        intro k hk I1 J1 y g1 hy g2 g3
        obtain rfl : k = e := by omega
        refine gs_iload_n (pc := 23) (gd gk_159 14 rfl) rfl ?_
        refine gs_iload_n (pc := 24) (gd gk_159 15 rfl) rfl ?_
        refine gs_icmp_ge (pc := 25) (gd gk_159 16 rfl) (fun c25 => ?_) (fun c25 => ?_)
        · replace c25 : k ≤ k := (zle (k := k) (m := k) (by omega) (by omega)).mp c25
          refine gs_iload_n (pc := 104) (gd gk_159 58 rfl) rfl ?_
          -- end 1: ireturn y, pc 105, locals [(0, .ref (126)), (1, .int (Int32.ofNat k)), (2, .int (y)), (3, .int (Int32.ofNat k))]
          exact gs_iret (pc := 105) (gd gk_159 59 rfl) rfl (rfl) (Nat.zero_le _) (Nat.zero_le _) (⟨I1, J1, rfl, gm_qf_tr z1 (gm_rf_q g1), g3, by rw [if_pos hx, znn (by omega), hy]; exact ⟨rfl, g2⟩⟩)
        · replace c25 : ¬ (k ≤ k) := fun q9 => c25 ((zle (k := k) (m := k) (by omega) (by omega)).mpr q9)
          -- end 2: stop, pc 28, locals [(0, .ref (126)), (1, .int (Int32.ofNat k)), (2, .int (y)), (3, .int (Int32.ofNat k))]
          exact absurd (Nat.le_refl _) c25
      | succ m ih =>
        intro k hk I1 J1 y g1 hy g2 g3
        generalize hpf : (fun q => gz_bk (gz_sd (J 126 34) (k * L + (q + 1)))) = pf
        have inner : ∀ (r g : Nat), r + g = L → ∀ I2 J2 z, gm_rf I0 I2 → (∀ c, c < 10 → I2 133 (13 + c) = gq_sq (gz_M I) (gq_w0 (gz_M I) h0) pf bc (I 133 10) (I 133) g c) → I2 133 23 = I 133 10 → I2 133 25 = Int32.ofNat (h0 + g) → z = y + gq_cm (gz_M I) (gq_w0 (gz_M I) h0) pf bc (I 133 10) (I 133) (fun _ => true) N g → J2 126 34 = gz_sd (J 126 34) (k * L + g) → (∀ p q, ¬ (p = 126 ∧ q = 34) → J2 p q = J p q) → gw_E V 159 (34, [(0, .ref 126), (1, .int (Int32.ofNat e)), (2, .int z), (3, .int (Int32.ofNat k))], [], gS n I2 J2, 0, 0) (mq_ms n I J N h0 L bc (Int32.ofNat e)) := by
          intro r
          induction r with
          | zero =>
            intro g hg I2 J2 z a1 a2 a3 a4 hz a5 a6
            obtain rfl : g = L := by omega
            have q1 := gm_qf_tr z1 (gm_rf_q a1)
            have hW1 : I2 126 3 = Int32.ofNat W := (gm_qf_now q1 hn).1.1
            refine gs_aload_n (pc := 34) (gd gk_159 21 rfl) rfl ?_
            refine gs_getR (r := 133) (pc := 35) (gd gk_159 22 rfl) rfl rfl rfl (by decide) ?_
            refine gs_bipush (pc := 38) (gd gk_159 23 rfl) (25) rfl ?_
            refine gs_ialoadK (25) (52) (pc := 40) (gd gk_159 24 rfl) (Or.inl rfl) rfl (by decide) (by first | rfl | (simp only [Int32.ofNat_add, Int32.ofNat_mul]; rfl) | (simp only [Int32.ofNat_add, Int32.ofNat_mul])) (by omega) ?_
            refine gs_as (Int32.ofNat (h0 + g)) (a4) ?_
            refine gs_aload_n (pc := 41) (gd gk_159 25 rfl) rfl ?_
            refine gs_getI (pc := 42) (gd gk_159 26 rfl) rfl rfl ?_
            refine gs_as (Int32.ofNat W) (hW1) ?_
            refine gs_icmp_ge (pc := 45) (gd gk_159 27 rfl) (fun c45 => ?_) (fun c45 => ?_)
            · replace c45 : W ≤ (h0 + g) := (zle (k := W) (m := (h0 + g)) (by omega) (by omega)).mp c45
              refine gs_iinc (ls2 := fun v => [(0, .ref (126)), (1, .int (Int32.ofNat e)), (2, .int (z)), (3, .int (v))]) (pc := 98) (gd gk_159 56 rfl) rfl (by rw [gL_159]; decide) (fun _ => rfl) (1) rfl (fun v3_1 hv3_1 => ?_)
              obtain rfl : v3_1 = Int32.ofNat (k + 1) := hv3_1.trans (by first | rfl | (simp only [Int32.ofNat_add, Int32.ofNat_mul]; rfl) | (simp only [Int32.ofNat_add, Int32.ofNat_mul]))
              refine gs_goto (pc := 101) (gd gk_159 57 rfl) ?_
              -- end 1: stop, pc 23, locals [(0, .ref (126)), (1, .int (Int32.ofNat e)), (2, .int (z)), (3, .int (Int32.ofNat (k + 1)))]
              exact ih (k + 1) (by omega) I2 J2 z a1 (by rw [hz, hy, ← hpf]; rfl) (by rw [a5, Nat.succ_mul]) a6
            · replace c45 : ¬ (W ≤ (h0 + g)) := fun q9 => c45 ((zle (k := W) (m := (h0 + g)) (by omega) (by omega)).mpr q9)
              -- end 2: stop, pc 48, locals [(0, .ref (126)), (1, .int (Int32.ofNat e)), (2, .int (z)), (3, .int (Int32.ofNat k))]
              exact absurd c45 (by omega)
          | succ r ihr =>
            intro g hg I2 J2 z a1 a2 a3 a4 hz a5 a6
            have q1 := gm_qf_tr z1 (gm_rf_q a1)
            have hn1 := gm_qf_now q1 hn
            have hM1 : gz_M I2 = gz_M I := gm_qf_M q1
            have hW1 : I2 126 3 = Int32.ofNat W := hn1.1.1
            have hL1 : ∀ c, c < 10 → gz_L I2 1 c = gq_sq (gz_M I) (gq_w0 (gz_M I) h0) pf bc (I 133 10) (I 133) g c := a2
            have hwk : I2 128 (h0 + g) = gq_w0 (gz_M I) h0 g := by
              show _ = gq_wd _ _ _
              rw [a1.1 128 (by omega) (by omega) (by omega), z2 _ (by omega), gq_wd_0 _ _ (by omega)]; rfl
            have hwd : gq_w0 (gz_M I) h0 g = -1 ∨ gq_w0 (gz_M I) h0 g = 0 ∨ gq_w0 (gz_M I) h0 g = 1 := by
              have : gq_w0 (gz_M I) h0 g = gz_M I 1 (h0 + g) := gq_wd_0 _ _ (by omega)
              rw [this]; exact hwnd _ (by omega)
            have pass : ∀ J3, J3 126 34 = gz_sd (J 126 34) (k * L + (g + 1)) → (∀ p q, ¬ (p = 126 ∧ q = 34) → J3 p q = J p q) → ∀ bk, bk = gz_bk (gz_sd (J 126 34) (k * L + (g + 1))) → gw_E V 159 (88, [(0, .ref 126), (1, .int (Int32.ofNat e)), (2, .int z), (3, .int (Int32.ofNat k))], [.int (gz_b bk), .int 1, .ref 126, .int z], gS n I2 J3, 0, 0) (mq_ms n I J N h0 L bc (Int32.ofNat e)) := by
              intro J3 b1 b2 bk hbk
              have hbk : bk = pf g := by rw [hbk, ← hpf]
              refine gs_bipush (pc := 88) (gd gk_159 51 rfl) (63) rfl ?_
              refine gs_callV (as := [.int (1), .int (gz_b bk), .int (63)]) (pc := 90) (gd gk_159 52 rfl) (by decide) rfl (by decide) rfl rfl (Nat.le_of_ble_eq_true rfl) gq_159_127 (Nat.le_of_ble_eq_true rfl) (m_pass (W := W) (N := N) 1 (h0 + g) bc bk 63 (gq_w0 (gz_M I) h0 g) (by omega) hn1.1 a4 (by omega) hwk hwd hn1.2.2.2.1 hb9) (fun r_90 w_90 q_90 => ?_)
              obtain ⟨I_p, rfl, rfl, p1, p2, p3, p4, p5⟩ := q_90
              have ev : gq_hc (gz_M I2) (gq_st (gz_M I2) (gq_w0 (gz_M I) h0 g) bk bc (I2 133 (13 * 1 + 10)) (gz_L I2 1)) bk (decide (gq_w0 (gz_M I) h0 g = 1)) (fun m => gz_in 63 (Int32.ofNat m)) N = gq_hc (gz_M I) (gq_sq (gz_M I) (gq_w0 (gz_M I) h0) pf bc (I 133 10) (I 133) (g + 1)) (pf g) (decide (gq_w0 (gz_M I) h0 g = 1)) (fun _ => true) N := by
                rw [hM1, show I2 133 (13 * 1 + 10) = I 133 10 from a3, gq_hc_k (gq_sim_rf _ N) _ _ _ (gm_all hN6) (Nat.le_refl N), hbk]
                exact gq_hc_c (fun c hc => gq_st_c hL1 _ _ _ _ _ c) (gq_ok_n hok)
              rw [ev]
              have hr : gm_rf I0 I_p := ⟨fun p r1 r2 r3 => by rw [p5 p r2 r3]; exact a1.1 p r1 r2 r3, fun q hq => by rw [p4 q (by omega) (by omega) (by omega)]; exact a1.2.1 q hq, fun q hq => by rw [p5 126 (by omega) (by omega)]; exact a1.2.2 q hq⟩
              refine gs_iadd (pc := 93) (gd gk_159 53 rfl) ?_
              refine gs_istore_n (ls2 := fun v => [(0, .ref (126)), (1, .int (Int32.ofNat e)), (2, .int (v)), (3, .int (Int32.ofNat k))]) (pc := 94) (gd gk_159 54 rfl) (by rw [gL_159]; decide) (fun _ => rfl) (fun v2_1 hv2_1 => ?_)
              refine gs_goto (pc := 95) (gd gk_159 55 rfl) ?_
              -- end 1: stop, pc 34, locals [(0, .ref (126)), (1, .int (Int32.ofNat e)), (2, .int (v2_1)), (3, .int (Int32.ofNat k))]
              refine ihr (g + 1) (by omega) I_p J3 _ hr (fun c hc => ?_) ?_ p3 ?_ b1 b2
              · rw [show 13 + c = 13 * 1 + c from rfl, p1 c hc, hM1, show I2 133 (13 * 1 + 10) = I 133 10 from a3, hbk, gq_st_c hL1]; rfl
              · rw [p4 23 (by omega) (by omega) (by omega)]; exact a3
              · rw [hv2_1, hz, Int32.add_assoc]; rfl
            refine gs_aload_n (pc := 34) (gd gk_159 21 rfl) rfl ?_
            refine gs_getR (r := 133) (pc := 35) (gd gk_159 22 rfl) rfl rfl rfl (by decide) ?_
            refine gs_bipush (pc := 38) (gd gk_159 23 rfl) (25) rfl ?_
            refine gs_ialoadK (25) (52) (pc := 40) (gd gk_159 24 rfl) (Or.inl rfl) rfl (by decide) (by first | rfl | (simp only [Int32.ofNat_add, Int32.ofNat_mul]; rfl) | (simp only [Int32.ofNat_add, Int32.ofNat_mul])) (by omega) ?_
            refine gs_as (Int32.ofNat (h0 + g)) (a4) ?_
            refine gs_aload_n (pc := 41) (gd gk_159 25 rfl) rfl ?_
            refine gs_getI (pc := 42) (gd gk_159 26 rfl) rfl rfl ?_
            refine gs_as (Int32.ofNat W) (hW1) ?_
            refine gs_icmp_ge (pc := 45) (gd gk_159 27 rfl) (fun c45 => ?_) (fun c45 => ?_)
            · replace c45 : W ≤ (h0 + g) := (zle (k := W) (m := (h0 + g)) (by omega) (by omega)).mp c45
              refine gs_iinc (ls2 := fun v => [(0, .ref (126)), (1, .int (Int32.ofNat e)), (2, .int (z)), (3, .int (v))]) (pc := 98) (gd gk_159 56 rfl) rfl (by rw [gL_159]; decide) (fun _ => rfl) (1) rfl (fun v3_1 hv3_1 => ?_)
              obtain rfl : v3_1 = Int32.ofNat (k + 1) := hv3_1.trans (by first | rfl | (simp only [Int32.ofNat_add, Int32.ofNat_mul]; rfl) | (simp only [Int32.ofNat_add, Int32.ofNat_mul]))
              refine gs_goto (pc := 101) (gd gk_159 57 rfl) ?_
              -- end 1: stop, pc 23, locals [(0, .ref (126)), (1, .int (Int32.ofNat e)), (2, .int (z)), (3, .int (Int32.ofNat (k + 1)))]
              exact absurd c45 (by omega)
            · replace c45 : ¬ (W ≤ (h0 + g)) := fun q9 => c45 ((zle (k := W) (m := (h0 + g)) (by omega) (by omega)).mpr q9)
              refine gs_aload_n (pc := 48) (gd gk_159 28 rfl) rfl ?_
              refine gs_aload_n (pc := 49) (gd gk_159 29 rfl) rfl ?_
              refine gs_getJ (pc := 50) (gd gk_159 30 rfl) rfl rfl ?_
              refine gs_ldc2_w (pc := 53) (gd gk_159 31 rfl) (6364136223846793005) rfl ?_
              refine gs_lmul (pc := 56) (gd gk_159 32 rfl) ?_
              refine gs_ldc2_w (pc := 57) (gd gk_159 33 rfl) (1442695040888963407) rfl ?_
              refine gs_ladd (pc := 60) (gd gk_159 34 rfl) ?_
              refine gs_putJ (pc := 61) (gd gk_159 35 rfl) rfl rfl rfl rfl (fun J_1 hJ_1 => ?_)
              have e1 : J_1 126 34 = gz_sd (J 126 34) (k * L + (g + 1)) := by rw [hJ_1]; simp [gw_uJ, a5]; rfl
              have e2 : ∀ p q, ¬ (p = 126 ∧ q = 34) → J_1 p q = J p q := fun p q hpq => by rw [hJ_1]; unfold gw_uJ; rw [if_neg hpq]; exact a6 p q hpq
              refine gs_iload_n (pc := 64) (gd gk_159 36 rfl) rfl ?_
              refine gs_aload_n (pc := 65) (gd gk_159 37 rfl) rfl ?_
              refine gs_iconst (pc := 66) (gd gk_159 38 rfl) (1) rfl ?_
              refine gs_aload_n (pc := 67) (gd gk_159 39 rfl) rfl ?_
              refine gs_getJ (pc := 68) (gd gk_159 40 rfl) rfl rfl ?_
              refine gs_bipush (pc := 71) (gd gk_159 41 rfl) (33) rfl ?_
              refine gs_lushr (pc := 73) (gd gk_159 42 rfl) ?_
              refine gs_ldc2_w (pc := 74) (gd gk_159 43 rfl) (2) rfl ?_
              refine gs_lrem (pc := 77) (gd gk_159 44 rfl) (by decide) ?_
              refine gs_lconst (pc := 78) (gd gk_159 45 rfl) (1) rfl ?_
              refine gs_lcmp (pc := 79) (gd gk_159 46 rfl) ?_
              refine gs_if_ne (pc := 80) (gd gk_159 47 rfl) (fun c80 => ?_) (fun c80 => ?_)
              · refine gs_iconst (pc := 87) (gd gk_159 50 rfl) (0) rfl ?_
                -- end 2: stop, pc 88, locals [(0, .ref (126)), (1, .int (Int32.ofNat e)), (2, .int (z)), (3, .int (Int32.ofNat k))]
                rw [zcmp_eq, e1] at c80
                exact pass J_1 e1 e2 false (by rw [show gz_bk (gz_sd (J 126 34) (k * L + (g + 1))) = false from decide_eq_false c80])
              · refine gs_iconst (pc := 83) (gd gk_159 48 rfl) (1) rfl ?_
                refine gs_goto (pc := 84) (gd gk_159 49 rfl) ?_
                -- end 3: stop, pc 88, locals [(0, .ref (126)), (1, .int (Int32.ofNat e)), (2, .int (z)), (3, .int (Int32.ofNat k))]
                rw [zcmp_eq, e1] at c80
                exact pass J_1 e1 e2 true (by rw [show gz_bk (gz_sd (J 126 34) (k * L + (g + 1))) = true from decide_eq_true c80])
        refine gs_iload_n (pc := 23) (gd gk_159 14 rfl) rfl ?_
        refine gs_iload_n (pc := 24) (gd gk_159 15 rfl) rfl ?_
        refine gs_icmp_ge (pc := 25) (gd gk_159 16 rfl) (fun c25 => ?_) (fun c25 => ?_)
        · replace c25 : e ≤ k := (zle (k := e) (m := k) (by omega) (by omega)).mp c25
          refine gs_iload_n (pc := 104) (gd gk_159 58 rfl) rfl ?_
          -- end 1: ireturn y, pc 105, locals [(0, .ref (126)), (1, .int (Int32.ofNat e)), (2, .int (y)), (3, .int (Int32.ofNat k))]
          exact absurd c25 (by omega)
        · replace c25 : ¬ (e ≤ k) := fun q9 => c25 ((zle (k := e) (m := k) (by omega) (by omega)).mpr q9)
          refine gs_aload_n (pc := 28) (gd gk_159 17 rfl) rfl ?_
          refine gs_iconst (pc := 29) (gd gk_159 18 rfl) (0) rfl ?_
          refine gs_iconst (pc := 30) (gd gk_159 19 rfl) (1) rfl ?_
          refine gs_callV (as := [.int (0), .int (1)]) (pc := 31) (gd gk_159 20 rfl) (by decide) rfl (by decide) rfl rfl (Nat.le_of_ble_eq_true rfl) gq_159_129 (Nat.le_of_ble_eq_true rfl) (m_lay 0 1 (by omega) (by omega) (by omega)) (fun r_31 w_31 q_31 => ?_)
          obtain ⟨rfl, I_l, rfl, l1, l2, l3⟩ := q_31
          -- end 2: stop, pc 34, locals [(0, .ref (126)), (1, .int (Int32.ofNat e)), (2, .int (y)), (3, .int (Int32.ofNat k))]
          have q1 := gm_qf_tr z1 (gm_rf_q g1)
          refine inner L 0 (by omega) I_l J1 y ⟨fun p r1 r2 r3 => by rw [l3 p r2]; exact g1.1 p r1 r2 r3, fun q hq => by rw [l2 q (by omega)]; exact g1.2.1 q hq, fun q hq => by rw [l3 126 (by omega)]; exact g1.2.2 q hq⟩ (fun c hc => ?_) ?_ ?_ ?_ (by rw [Nat.add_zero]; exact g2) g3
          · rw [show 13 + c = 13 * 1 + c from rfl, l1 c (by omega), Nat.mul_zero, Nat.zero_add, q1.2.1 c (by omega)]; rfl
          · rw [show 23 = 13 * 1 + 10 from rfl, l1 10 (by omega), Nat.mul_zero, Nat.zero_add, q1.2.1 10 (by omega)]
          · rw [show 25 = 13 * 1 + 12 from rfl, l1 12 (by omega), Nat.mul_zero, Nat.zero_add, q1.2.1 12 (by omega)]; exact hh
          · show y = y + 0
            rw [Int32.add_zero]
    refine gs_iload_n (pc := 0) (gd gk_159 0 rfl) rfl ?_
    refine gs_i2l (pc := 1) (gd gk_159 1 rfl) ?_
    refine gs_lconst (pc := 2) (gd gk_159 2 rfl) (1) rfl ?_
    refine gs_ldc2_w (pc := 3) (gd gk_159 3 rfl) (20) rfl ?_
    refine gs_callS (as := [.long ((Int32.ofNat e : Int32).toInt64), .long (1), .long (20)]) (pc := 6) (gd gk_159 4 rfl) (by decide) rfl rfl (Nat.le_of_ble_eq_true rfl) gq_159_107 (Nat.le_of_ble_eq_true rfl) (c_mrg (Int32.ofNat e) (1) (20)) (fun r_6 w_6 q_6 => ?_)
    obtain ⟨rfl, rfl⟩ := q_6
    refine gs_if_ne (pc := 9) (gd gk_159 5 rfl) (fun c9 => ?_) (fun c9 => ?_)
    · refine gs_aload_n (pc := 15) (gd gk_159 8 rfl) rfl ?_
      refine gs_callV (as := []) (pc := 16) (gd gk_159 9 rfl) (by decide) rfl (by decide) rfl rfl (Nat.le_of_ble_eq_true rfl) gq_159_128 (Nat.le_of_ble_eq_true rfl) (m_winds) (fun r_16 w_16 q_16 => ?_)
      obtain ⟨rfl, I_w, rfl, w1, w2⟩ := q_16
      refine gs_iconst (pc := 19) (gd gk_159 10 rfl) (0) rfl ?_
      refine gs_istore_n (ls2 := fun v => [(0, .ref (126)), (1, .int (Int32.ofNat e)), (2, .int (v))]) (pc := 20) (gd gk_159 11 rfl) (by rw [gL_159]; decide) (fun _ => rfl) (fun v2_1 hv2_1 => ?_)
      obtain rfl : v2_1 = Int32.ofNat 0 := hv2_1.trans (by first | rfl | (simp only [Int32.ofNat_add, Int32.ofNat_mul]; rfl) | (simp only [Int32.ofNat_add, Int32.ofNat_mul]))
      refine gs_iconst (pc := 21) (gd gk_159 12 rfl) (0) rfl ?_
      refine gs_istore_n (ls2 := fun v => [(0, .ref (126)), (1, .int (Int32.ofNat e)), (2, .int (Int32.ofNat 0)), (3, .int (v))]) (pc := 22) (gd gk_159 13 rfl) (by rw [gL_159]; decide) (fun _ => rfl) (fun v3_1 hv3_1 => ?_)
      obtain rfl : v3_1 = Int32.ofNat 0 := hv3_1.trans (by first | rfl | (simp only [Int32.ofNat_add, Int32.ofNat_mul]; rfl) | (simp only [Int32.ofNat_add, Int32.ofNat_mul]))
      -- end 1: stop, pc 23, locals [(0, .ref (126)), (1, .int (Int32.ofNat e)), (2, .int (Int32.ofNat 0)), (3, .int (Int32.ofNat 0))]
      exact lp I_w (gm_qf_128 w2) w1 e 0 (by omega) I_w J _ ⟨fun _ _ _ _ => rfl, fun _ _ => rfl, fun _ _ => rfl⟩ rfl (by rw [Nat.zero_mul]; rfl) (fun _ _ _ => rfl)
    · refine gs_ldc (pc := 12) (gd gk_159 6 rfl) (-1000002) rfl ?_
      -- end 2: ireturn (-1000002), pc 14, locals [(0, .ref (126)), (1, .int (Int32.ofNat e))]
      exact absurd hx (gz_rg_f.mp (gz_b_eq.mp c9))
  · skip
    refine gs_iload_n (pc := 0) (gd gk_159 0 rfl) rfl ?_
    refine gs_i2l (pc := 1) (gd gk_159 1 rfl) ?_
    refine gs_lconst (pc := 2) (gd gk_159 2 rfl) (1) rfl ?_
    refine gs_ldc2_w (pc := 3) (gd gk_159 3 rfl) (20) rfl ?_
    refine gs_callS (as := [.long ((a : Int32).toInt64), .long (1), .long (20)]) (pc := 6) (gd gk_159 4 rfl) (by decide) rfl rfl (Nat.le_of_ble_eq_true rfl) gq_159_107 (Nat.le_of_ble_eq_true rfl) (c_mrg (a) (1) (20)) (fun r_6 w_6 q_6 => ?_)
    obtain ⟨rfl, rfl⟩ := q_6
    refine gs_if_ne (pc := 9) (gd gk_159 5 rfl) (fun c9 => ?_) (fun c9 => ?_)
    · -- end 1: stop, pc 15, locals [(0, .ref (126)), (1, .int (a))]
      exact absurd (gz_rg_t.mp (gz_b_ne.mp c9)) hx
    · refine gs_ldc (pc := 12) (gd gk_159 6 rfl) (-1000002) rfl ?_
      -- end 2: ireturn (-1000002), pc 14, locals [(0, .ref (126)), (1, .int (a))]
      exact gs_iret (pc := 14) (gd gk_159 7 rfl) rfl (rfl) (Nat.zero_le _) (Nat.zero_le _) (⟨I, J, rfl, gm_qf_rf I, fun _ _ _ => rfl, by rw [if_neg hx]; exact ⟨rfl, rfl⟩⟩)
end
