/-! ===== judge of the reference ===== -/
theorem zlepred {row : Int32} {m : Nat} (h1 : 1 ≤ m) (h2 : m < 2 ^ 31) : row ≤ Int32.ofNat m - 1 ↔ row < Int32.ofNat m := by
  have := (zle (k := 1) (by decide) h2).mpr h1
  have this : (1 : Int32) ≤ Int32.ofNat m := this
  generalize Int32.ofNat m = y at *
  constructor <;> (intro q; grind)
theorem z10p : ∀ e, e ≤ 8 → 1 ≤ 10 ^ e ∧ 10 ^ e < 2 ^ 31 := by decide
theorem zsub1 {e k : Nat} (h : k < e) : Int32.ofNat e - 1 - Int32.ofNat k = Int32.ofNat (e - 1 - k) := by
  obtain ⟨b, rfl⟩ : ∃ b, e = k + b + 1 := ⟨e - 1 - k, by omega⟩
  rw [show k + b + 1 - 1 - k = b by omega, zsucc, Int32.ofNat_add]; grind
section
variable {V : gw_V} {n W N h0 L bc : Nat} {I : Nat → Nat → Int32} {J : Nat → Nat → Int64}
abbrev mq_jg (n : Nat) (I : Nat → Nat → Int32) (J : Nat → Nat → Int64) (N h0 L bc : Nat) (x row : Int32) : Option Value → gw_W → Prop := fun v w' => ∃ y, v = some (.int y) ∧ gz_jg (gz_M I) N h0 L bc (I 133 10) (I 133) x row y ∧ ∃ I2, w' = gS n I2 J ∧ gm_qf I I2
theorem m_judge (x row : Int32) (hn : gm_now I W N h0 L bc) : gw_E V 144 (0, [(0, .ref 126), (1, .int x), (2, .int row)], [], gS n I J, 0, 0) (mq_jg n I J N h0 L bc x row) := by
  obtain ⟨hok, hh, hW, hbc, hb9⟩ := id hn
  obtain ⟨hW0, hW8, hN, hN6, -, -, -, hwnd, hns⟩ := id hok
  have hW0 : I 126 3 = Int32.ofNat W := hW0
  by_cases hx : 1 ≤ x ∧ x ≤ 8
  · obtain ⟨e, rfl, he1, he8⟩ := zsmall hx
    have h10 := z10p e he8
    have hbad : ∀ c, ¬ (0 ≤ row ∧ row < Int32.ofNat (10 ^ e)) → c = some (Value.int (-2)) → mq_jg n I J N h0 L bc (Int32.ofNat e) row c (gS n I J) := by
      intro c hc hv
      refine ⟨-2, hv, ?_, I, rfl, gm_qf_rf I⟩
      unfold gz_jg
      rw [znn (by omega), if_neg (fun q => hc q.2)]
    have lp : ∀ I0, gm_qf I I0 → (∀ h, h < 8 → I0 128 h = I 127 h) → (0 ≤ row ∧ row < Int32.ofNat (10 ^ e)) → ∀ (m k : Nat), m + k = e → k ≤ L → ∀ I1, gm_rf I0 I1 → (∀ c, c < 10 → I1 133 (13 + c) = gq_sq (gz_M I) (gq_w0 (gz_M I) h0) (gq_fp row e) bc (I 133 10) (I 133) k c) → I1 133 23 = I 133 10 → I1 133 25 = Int32.ofNat (h0 + k) → (∀ j, j < k → gq_jb (gz_M I) N h0 L bc (I 133 10) (I 133) row e j = false) → gw_E V 144 (43, [(0, .ref 126), (1, .int (Int32.ofNat e)), (2, .int row), (3, .int (Int32.ofNat k))], [], gS n I1 J, 0, 0) (mq_jg n I J N h0 L bc (Int32.ofNat e) row) := by
      intro I0 g1 g2 g4 m
      have fin : ∀ I1, gm_qf I I1 → ∀ y, gz_fst (gq_jb (gz_M I) N h0 L bc (I 133 10) (I 133) row e) e y → mq_jg n I J N h0 L bc (Int32.ofNat e) row (some (.int y)) (gS n I1 J) := by
        intro I1 q1 y hy
        refine ⟨y, rfl, ?_, I1, rfl, q1⟩
        unfold gz_jg
        rw [znn (by omega), if_pos ⟨hx, g4⟩]
        exact hy
      induction m with
      | zero =>
        intro k hk hkL I1 a1 a2 a3 a4 a5
        obtain rfl : k = e := by omega
        refine gs_iload_n (pc := 43) (gd gk_144 26 rfl) rfl ?_
        refine gs_iload_n (pc := 44) (gd gk_144 27 rfl) rfl ?_
        refine gs_icmp_ge (pc := 45) (gd gk_144 28 rfl) (fun c45 => ?_) (fun c45 => ?_)
        · replace c45 : k ≤ k := (zle (k := k) (m := k) (by omega) (by omega)).mp c45
          refine gs_bipush (pc := 112) (gd gk_144 65 rfl) (-99) rfl ?_
          -- end 1: ireturn (-99), pc 114, locals [(0, .ref (126)), (1, .int (Int32.ofNat k)), (2, .int (row)), (3, .int (Int32.ofNat k))]
          exact gs_iret (pc := 114) (gd gk_144 66 rfl) rfl (rfl) (Nat.zero_le _) (Nat.zero_le _) (fin I1 (gm_qf_tr g1 (gm_rf_q a1)) _ (.inr ⟨a5, rfl⟩))
        · replace c45 : ¬ (k ≤ k) := fun q9 => c45 ((zle (k := k) (m := k) (by omega) (by omega)).mpr q9)
          -- end 2: stop, pc 48, locals [(0, .ref (126)), (1, .int (Int32.ofNat k)), (2, .int (row)), (3, .int (Int32.ofNat k))]
          exact absurd (Nat.le_refl _) c45
      | succ m ih =>
        intro k hk hkL I1 a1 a2 a3 a4 a5
        have q1 := gm_qf_tr g1 (gm_rf_q a1)
        have hn1 := gm_qf_now q1 hn
        have hM1 : gz_M I1 = gz_M I := gm_qf_M q1
        have hW1 : I1 126 3 = Int32.ofNat W := hn1.1.1
        have hek : Int32.ofNat e - 1 - Int32.ofNat k = Int32.ofNat (e - 1 - k) := zsub1 (by omega)
        have hne := gz_t10 (e - 1 - k) (by omega)
        have hL1 : ∀ c, c < 10 → gz_L I1 1 c = gq_sq (gz_M I) (gq_w0 (gz_M I) h0) (gq_fp row e) bc (I 133 10) (I 133) k c := a2
        have pass : ∀ f, f = gz_fg row (e - 1 - k) → ¬ (1 < f) → k < L → ∀ bk, bk = gq_fp row e k → gw_E V 144 (96, [(0, .ref 126), (1, .int (Int32.ofNat e)), (2, .int row), (3, .int (Int32.ofNat k)), (4, .int f)], [.int (gz_b bk), .int 1, .ref 126], gS n I1 J, 0, 0) (mq_jg n I J N h0 L bc (Int32.ofNat e) row) := by
          intro f hf hf1 hkL2 bk hbk
          have hwk : I1 128 (h0 + k) = gq_w0 (gz_M I) h0 k := by
            show _ = gq_wd _ _ _
            rw [a1.1 128 (by omega) (by omega) (by omega), g2 _ (by omega), gq_wd_0 _ _ (by omega)]; rfl
          have hwd : gq_w0 (gz_M I) h0 k = -1 ∨ gq_w0 (gz_M I) h0 k = 0 ∨ gq_w0 (gz_M I) h0 k = 1 := by
            have : gq_w0 (gz_M I) h0 k = gz_M I 1 (h0 + k) := gq_wd_0 _ _ (by omega)
            rw [this]; exact hwnd _ (by omega)
          refine gs_bipush (pc := 96) (gd gk_144 58 rfl) (63) rfl ?_
          refine gs_callV (as := [.int (1), .int (gz_b bk), .int (63)]) (pc := 98) (gd gk_144 59 rfl) (by decide) rfl (by decide) rfl rfl (Nat.le_of_ble_eq_true rfl) gq_144_127 (Nat.le_of_ble_eq_true rfl) (m_pass (W := W) (N := N) 1 (h0 + k) bc bk 63 (gq_w0 (gz_M I) h0 k) (by omega) hn1.1 a4 (by omega) hwk hwd hn1.2.2.2.1 hb9) (fun r_98 w_98 q_98 => ?_)
          obtain ⟨I_p, rfl, rfl, p1, p2, p3, p4, p5⟩ := q_98
          have ev : gq_hc (gz_M I1) (gq_st (gz_M I1) (gq_w0 (gz_M I) h0 k) bk bc (I1 133 (13 * 1 + 10)) (gz_L I1 1)) bk (decide (gq_w0 (gz_M I) h0 k = 1)) (fun m => gz_in 63 (Int32.ofNat m)) N = gq_jh (gz_M I) N h0 bc (I 133 10) (I 133) row e k := by
            rw [hM1, show I1 133 (13 * 1 + 10) = I 133 10 from a3, gq_hc_k (gq_sim_rf _ N) _ _ _ (gm_all hN6) (Nat.le_refl N), hbk]
            unfold gq_jh
            exact gq_hc_c (fun c hc => gq_st_c hL1 _ _ _ _ _ c) (gq_ok_n hok)
          rw [ev]
          have hr : gm_rf I0 I_p := ⟨fun p r1 r2 r3 => by rw [p5 p r2 r3]; exact a1.1 p r1 r2 r3, fun q hq => by rw [p4 q (by omega) (by omega) (by omega)]; exact a1.2.1 q hq, fun q hq => by rw [p5 126 (by omega) (by omega)]; exact a1.2.2 q hq⟩
          refine gs_if_ge (pc := 101) (gd gk_144 60 rfl) (fun c101 => ?_) (fun c101 => ?_)
          · refine gs_iinc (ls2 := fun v => [(0, .ref (126)), (1, .int (Int32.ofNat e)), (2, .int (row)), (3, .int (v)), (4, .int (f))]) (pc := 106) (gd gk_144 63 rfl) rfl (by rw [gL_144]; decide) (fun _ => rfl) (1) rfl (fun v3_1 hv3_1 => ?_)
            obtain rfl : v3_1 = Int32.ofNat (k + 1) := hv3_1.trans (by first | rfl | (simp only [Int32.ofNat_add, Int32.ofNat_mul]; rfl) | (simp only [Int32.ofNat_add, Int32.ofNat_mul]))
            refine gs_goto (pc := 109) (gd gk_144 64 rfl) ?_
            -- end 1: stop, pc 43, locals [(0, .ref (126)), (1, .int (Int32.ofNat e)), (2, .int (row)), (3, .int (Int32.ofNat (k + 1))), (4, .int (f))]
            refine gs_drop [0, 1, 2, 3] rfl (ih (k + 1) (by omega) (by omega) I_p hr (fun c hc => ?_) ?_ p3 (fun j hj => ?_))
            · rw [show 13 + c = 13 * 1 + c from rfl, p1 c hc, hM1, show I1 133 (13 * 1 + 10) = I 133 10 from a3, hbk, gq_st_c hL1]; rfl
            · rw [p4 23 (by omega) (by omega) (by omega)]; exact a3
            · by_cases q : j = k
              · rw [q]; unfold gq_jb; rw [decide_eq_false (by omega), ← hf, decide_eq_false hf1, decide_eq_false (Int32.not_lt.mpr c101)]; rfl
              · exact a5 j (by omega)
          · refine gs_iload_n (pc := 104) (gd gk_144 61 rfl) rfl ?_
            -- end 2: ireturn Int32.ofNat k, pc 105, locals [(0, .ref (126)), (1, .int (Int32.ofNat e)), (2, .int (row)), (3, .int (Int32.ofNat k)), (4, .int (f))]
            exact gs_iret (pc := 105) (gd gk_144 62 rfl) rfl (rfl) (Nat.zero_le _) (Nat.zero_le _) (fin I_p (gm_qf_tr g1 (gm_rf_q hr)) _ (.inl ⟨k, by omega, by unfold gq_jb; rw [decide_eq_true (Int32.not_le.mp c101), Bool.or_true], a5, rfl⟩))
        refine gs_iload_n (pc := 43) (gd gk_144 26 rfl) rfl ?_
        refine gs_iload_n (pc := 44) (gd gk_144 27 rfl) rfl ?_
        refine gs_icmp_ge (pc := 45) (gd gk_144 28 rfl) (fun c45 => ?_) (fun c45 => ?_)
        · replace c45 : e ≤ k := (zle (k := e) (m := k) (by omega) (by omega)).mp c45
          refine gs_bipush (pc := 112) (gd gk_144 65 rfl) (-99) rfl ?_
          -- end 1: ireturn (-99), pc 114, locals [(0, .ref (126)), (1, .int (Int32.ofNat e)), (2, .int (row)), (3, .int (Int32.ofNat k))]
          exact absurd c45 (by omega)
        · replace c45 : ¬ (e ≤ k) := fun q9 => c45 ((zle (k := e) (m := k) (by omega) (by omega)).mpr q9)
          refine gs_iload_n (pc := 48) (gd gk_144 29 rfl) rfl ?_
          refine gs_iload_n (pc := 49) (gd gk_144 30 rfl) rfl ?_
          refine gs_iconst (pc := 50) (gd gk_144 31 rfl) (1) rfl ?_
          refine gs_isub (pc := 51) (gd gk_144 32 rfl) ?_
          refine gs_iload_n (pc := 52) (gd gk_144 33 rfl) rfl ?_
          refine gs_isub (pc := 53) (gd gk_144 34 rfl) ?_
          refine gs_callS (as := [.int (((Int32.ofNat e - 1) - Int32.ofNat k))]) (pc := 54) (gd gk_144 35 rfl) (by decide) rfl rfl (Nat.le_of_ble_eq_true rfl) gq_144_143 (Nat.le_of_ble_eq_true rfl) ((by rw [hek]; exact m_tenTo (e - 1 - k) (by omega))) (fun r_54 w_54 q_54 => ?_)
          obtain ⟨rfl, rfl⟩ := q_54
          refine gs_idiv (pc := 57) (gd gk_144 36 rfl) hne ?_
          refine gs_bipush (pc := 58) (gd gk_144 37 rfl) (10) rfl ?_
          refine gs_irem (pc := 60) (gd gk_144 38 rfl) (by decide) ?_
          refine gs_istore (ls2 := fun v => [(0, .ref (126)), (1, .int (Int32.ofNat e)), (2, .int (row)), (3, .int (Int32.ofNat k)), (4, .int (v))]) (pc := 61) (gd gk_144 39 rfl) (by rw [gL_144]; decide) (fun _ => rfl) (fun v4_1 hv4_1 => ?_)
          have hv4 : gz_fg row (e - 1 - k) = v4_1 := hv4_1.symm
          refine gs_iload (pc := 63) (gd gk_144 40 rfl) rfl ?_
          refine gs_iconst (pc := 65) (gd gk_144 41 rfl) (1) rfl ?_
          refine gs_icmp_gt (pc := 66) (gd gk_144 42 rfl) (fun c66 => ?_) (fun c66 => ?_)
          · refine gs_iload_n (pc := 104) (gd gk_144 61 rfl) rfl ?_
            -- end 2: ireturn Int32.ofNat k, pc 105, locals [(0, .ref (126)), (1, .int (Int32.ofNat e)), (2, .int (row)), (3, .int (Int32.ofNat k)), (4, .int (v4_1))]
            exact gs_iret (pc := 105) (gd gk_144 62 rfl) rfl (rfl) (Nat.zero_le _) (Nat.zero_le _) (fin I1 q1 _ (.inl ⟨k, by omega, by unfold gq_jb; rw [decide_eq_true (show 1 < gz_fg row (e - 1 - k) from by rw [hv4]; exact c66), Bool.or_true]; rfl, a5, rfl⟩))
          · refine gs_aload_n (pc := 69) (gd gk_144 43 rfl) rfl ?_
            refine gs_getR (r := 133) (pc := 70) (gd gk_144 44 rfl) rfl rfl rfl (by decide) ?_
            refine gs_bipush (pc := 73) (gd gk_144 45 rfl) (25) rfl ?_
            refine gs_ialoadK (25) (52) (pc := 75) (gd gk_144 46 rfl) (Or.inl rfl) rfl (by decide) (by first | rfl | (simp only [Int32.ofNat_add, Int32.ofNat_mul]; rfl) | (simp only [Int32.ofNat_add, Int32.ofNat_mul])) (by omega) ?_
            refine gs_as (Int32.ofNat (h0 + k)) (a4) ?_
            refine gs_aload_n (pc := 76) (gd gk_144 47 rfl) rfl ?_
            refine gs_getI (pc := 77) (gd gk_144 48 rfl) rfl rfl ?_
            refine gs_as (Int32.ofNat W) (hW1) ?_
            refine gs_icmp_eq (pc := 80) (gd gk_144 49 rfl) (fun c80 => ?_) (fun c80 => ?_)
            · replace c80 : (h0 + k) = W := (zeq (k := (h0 + k)) (m := W) (by omega) (by omega)).mp c80
              refine gs_iload_n (pc := 104) (gd gk_144 61 rfl) rfl ?_
              -- end 3: ireturn Int32.ofNat k, pc 105, locals [(0, .ref (126)), (1, .int (Int32.ofNat e)), (2, .int (row)), (3, .int (Int32.ofNat k)), (4, .int (v4_1))]
              exact gs_iret (pc := 105) (gd gk_144 62 rfl) rfl (rfl) (Nat.zero_le _) (Nat.zero_le _) (fin I1 q1 _ (.inl ⟨k, by omega, by unfold gq_jb; rw [decide_eq_true (by omega : L ≤ k)]; rfl, a5, rfl⟩))
            · replace c80 : ¬ ((h0 + k) = W) := fun q9 => c80 ((zeq (k := (h0 + k)) (m := W) (by omega) (by omega)).mpr q9)
              refine gs_aload_n (pc := 83) (gd gk_144 50 rfl) rfl ?_
              refine gs_iconst (pc := 84) (gd gk_144 51 rfl) (1) rfl ?_
              refine gs_iload (pc := 85) (gd gk_144 52 rfl) rfl ?_
              refine gs_iconst (pc := 87) (gd gk_144 53 rfl) (1) rfl ?_
              refine gs_icmp_ne (pc := 88) (gd gk_144 54 rfl) (fun c88 => ?_) (fun c88 => ?_)
              · refine gs_iconst (pc := 95) (gd gk_144 57 rfl) (0) rfl ?_
                -- end 4: stop, pc 96, locals [(0, .ref (126)), (1, .int (Int32.ofNat e)), (2, .int (row)), (3, .int (Int32.ofNat k)), (4, .int (v4_1))]
                exact pass v4_1 hv4_1 c66 (by omega) false (by unfold gq_fp; rw [decide_eq_false (show ¬ gz_fg row (e - 1 - k) = 1 from by rw [hv4]; exact c88)])
              · refine gs_iconst (pc := 91) (gd gk_144 55 rfl) (1) rfl ?_
                refine gs_goto (pc := 92) (gd gk_144 56 rfl) ?_
                -- end 5: stop, pc 96, locals [(0, .ref (126)), (1, .int (Int32.ofNat e)), (2, .int (row)), (3, .int (Int32.ofNat k)), (4, .int (v4_1))]
                exact pass v4_1 hv4_1 c66 (by omega) true (by unfold gq_fp; rw [decide_eq_true (show gz_fg row (e - 1 - k) = 1 from by rw [hv4]; exact c88)])
    refine gs_iload_n (pc := 0) (gd gk_144 0 rfl) rfl ?_
    refine gs_i2l (pc := 1) (gd gk_144 1 rfl) ?_
    refine gs_lconst (pc := 2) (gd gk_144 2 rfl) (1) rfl ?_
    refine gs_ldc2_w (pc := 3) (gd gk_144 3 rfl) (8) rfl ?_
    refine gs_callS (as := [.long ((Int32.ofNat e : Int32).toInt64), .long (1), .long (8)]) (pc := 6) (gd gk_144 4 rfl) (by decide) rfl rfl (Nat.le_of_ble_eq_true rfl) gq_144_107 (Nat.le_of_ble_eq_true rfl) (c_mrg (Int32.ofNat e) (1) (8)) (fun r_6 w_6 q_6 => ?_)
    obtain ⟨rfl, rfl⟩ := q_6
    refine gs_if_eq (pc := 9) (gd gk_144 5 rfl) (fun c9 => ?_) (fun c9 => ?_)
    · refine gs_bipush (pc := 28) (gd gk_144 16 rfl) (-2) rfl ?_
      -- end 1: ireturn (-2), pc 30, locals [(0, .ref (126)), (1, .int (Int32.ofNat e)), (2, .int (row))]
      exact absurd hx (gz_rg_f.mp (gz_b_eq.mp c9))
    · refine gs_iload_n (pc := 12) (gd gk_144 6 rfl) rfl ?_
      refine gs_i2l (pc := 13) (gd gk_144 7 rfl) ?_
      refine gs_lconst (pc := 14) (gd gk_144 8 rfl) (0) rfl ?_
      refine gs_iload_n (pc := 15) (gd gk_144 9 rfl) rfl ?_
      refine gs_callS (as := [.int (Int32.ofNat e)]) (pc := 16) (gd gk_144 10 rfl) (by decide) rfl rfl (Nat.le_of_ble_eq_true rfl) gq_144_143 (Nat.le_of_ble_eq_true rfl) (m_tenTo e he8) (fun r_16 w_16 q_16 => ?_)
      obtain ⟨rfl, rfl⟩ := q_16
      refine gs_iconst (pc := 19) (gd gk_144 11 rfl) (1) rfl ?_
      refine gs_isub (pc := 20) (gd gk_144 12 rfl) ?_
      refine gs_i2l (pc := 21) (gd gk_144 13 rfl) ?_
      refine gs_callS (as := [.long ((row : Int32).toInt64), .long (0), .long ((((Int32.ofNat (10 ^ e)) - 1) : Int32).toInt64)]) (pc := 22) (gd gk_144 14 rfl) (by decide) rfl rfl (Nat.le_of_ble_eq_true rfl) gq_144_107 (Nat.le_of_ble_eq_true rfl) (c_mrg (row) (0) (((Int32.ofNat (10 ^ e)) - 1))) (fun r_22 w_22 q_22 => ?_)
      obtain ⟨rfl, rfl⟩ := q_22
      refine gs_if_ne (pc := 25) (gd gk_144 15 rfl) (fun c25 => ?_) (fun c25 => ?_)
      · refine gs_aload_n (pc := 31) (gd gk_144 18 rfl) rfl ?_
        refine gs_callV (as := []) (pc := 32) (gd gk_144 19 rfl) (by decide) rfl (by decide) rfl rfl (Nat.le_of_ble_eq_true rfl) gq_144_128 (Nat.le_of_ble_eq_true rfl) (m_winds) (fun r_32 w_32 q_32 => ?_)
        obtain ⟨rfl, I_w, rfl, w1, w2⟩ := q_32
        refine gs_aload_n (pc := 35) (gd gk_144 20 rfl) rfl ?_
        refine gs_iconst (pc := 36) (gd gk_144 21 rfl) (0) rfl ?_
        refine gs_iconst (pc := 37) (gd gk_144 22 rfl) (1) rfl ?_
        refine gs_callV (as := [.int (0), .int (1)]) (pc := 38) (gd gk_144 23 rfl) (by decide) rfl (by decide) rfl rfl (Nat.le_of_ble_eq_true rfl) gq_144_129 (Nat.le_of_ble_eq_true rfl) (m_lay 0 1 (by omega) (by omega) (by omega)) (fun r_38 w_38 q_38 => ?_)
        obtain ⟨rfl, I_l, rfl, l1, l2, l3⟩ := q_38
        refine gs_iconst (pc := 41) (gd gk_144 24 rfl) (0) rfl ?_
        refine gs_istore_n (ls2 := fun v => [(0, .ref (126)), (1, .int (Int32.ofNat e)), (2, .int (row)), (3, .int (v))]) (pc := 42) (gd gk_144 25 rfl) (by rw [gL_144]; decide) (fun _ => rfl) (fun v3_1 hv3_1 => ?_)
        obtain rfl : v3_1 = Int32.ofNat 0 := hv3_1.trans (by first | rfl | (simp only [Int32.ofNat_add, Int32.ofNat_mul]; rfl) | (simp only [Int32.ofNat_add, Int32.ofNat_mul]))
        -- end 2: stop, pc 43, locals [(0, .ref (126)), (1, .int (Int32.ofNat e)), (2, .int (row)), (3, .int (Int32.ofNat 0))]
        have hr := gz_rg_t.mp (gz_b_ne.mp c25)
        have hr2 : 0 ≤ row ∧ row < Int32.ofNat (10 ^ e) := ⟨hr.1, (zlepred h10.1 h10.2).mp hr.2⟩
        have e133 : I_w 133 = I 133 := w2 133 (by omega)
        refine lp I_w (gm_qf_128 w2) w1 hr2 e 0 (by omega) (by omega) I_l ⟨fun p _ r2 _ => l3 p r2, fun q hq => l2 q (by omega), fun q _ => by rw [l3 126 (by omega)]⟩ (fun c hc => ?_) ?_ ?_ (fun j hj => absurd hj (Nat.not_lt_zero _))
        · rw [show 13 + c = 13 * 1 + c from rfl, l1 c (by omega), Nat.mul_zero, Nat.zero_add, e133]; rfl
        · rw [show 23 = 13 * 1 + 10 from rfl, l1 10 (by omega), e133]
        · rw [show 25 = 13 * 1 + 12 from rfl, l1 12 (by omega), e133]; exact hh
      · refine gs_bipush (pc := 28) (gd gk_144 16 rfl) (-2) rfl ?_
        -- end 3: ireturn (-2), pc 30, locals [(0, .ref (126)), (1, .int (Int32.ofNat e)), (2, .int (row))]
        exact gs_iret (pc := 30) (gd gk_144 17 rfl) rfl (rfl) (Nat.zero_le _) (Nat.zero_le _) (hbad _ (fun q => gz_rg_f.mp (gz_b_eq.mp c25) ⟨q.1, (zlepred h10.1 h10.2).mpr q.2⟩) rfl)
  · have hbad : ∀ c, c = some (Value.int (-2)) → mq_jg n I J N h0 L bc x row c (gS n I J) := by
      intro c hv
      refine ⟨-2, hv, ?_, I, rfl, gm_qf_rf I⟩
      unfold gz_jg
      rw [if_neg (fun q => hx q.1)]
    refine gs_iload_n (pc := 0) (gd gk_144 0 rfl) rfl ?_
    refine gs_i2l (pc := 1) (gd gk_144 1 rfl) ?_
    refine gs_lconst (pc := 2) (gd gk_144 2 rfl) (1) rfl ?_
    refine gs_ldc2_w (pc := 3) (gd gk_144 3 rfl) (8) rfl ?_
    refine gs_callS (as := [.long ((x : Int32).toInt64), .long (1), .long (8)]) (pc := 6) (gd gk_144 4 rfl) (by decide) rfl rfl (Nat.le_of_ble_eq_true rfl) gq_144_107 (Nat.le_of_ble_eq_true rfl) (c_mrg (x) (1) (8)) (fun r_6 w_6 q_6 => ?_)
    obtain ⟨rfl, rfl⟩ := q_6
    refine gs_if_eq (pc := 9) (gd gk_144 5 rfl) (fun c9 => ?_) (fun c9 => ?_)
    · refine gs_bipush (pc := 28) (gd gk_144 16 rfl) (-2) rfl ?_
      -- end 1: ireturn (-2), pc 30, locals [(0, .ref (126)), (1, .int (x)), (2, .int (row))]
      exact gs_iret (pc := 30) (gd gk_144 17 rfl) rfl (rfl) (Nat.zero_le _) (Nat.zero_le _) (hbad _ rfl)
    · -- end 2: stop, pc 12, locals [(0, .ref (126)), (1, .int (x)), (2, .int (row))]
      exact absurd (gz_rg_t.mp (gz_b_ne.mp c9)) hx
end
