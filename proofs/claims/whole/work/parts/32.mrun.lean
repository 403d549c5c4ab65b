/-! ===== the reference: run ===== -/
/-- the reference's morning as it stands, in numbers; its winds as they blow -/
def gm_now (I : Nat → Nat → Int32) (W N h0 L bc : Nat) : Prop := gq_ok (gz_M I) W N ∧ I 133 12 = Int32.ofNat h0 ∧ h0 + L = W ∧ I 126 0 = Int32.ofNat bc ∧ bc < 10
/-- what the reference's asking may change -/
def gm_qf (I I2 : Nat → Nat → Int32) : Prop := (∀ p, p ≠ 126 → p ≠ 128 → p ≠ 130 → p ≠ 131 → p ≠ 132 → p ≠ 133 → p ≠ 135 → p ≠ 137 → p ≠ 141 → p ≠ 142 → I2 p = I p) ∧ (∀ q, q < 13 → I2 133 q = I 133 q) ∧ ∀ q, q ≠ 11 → q ≠ 12 → q ≠ 16 → q ≠ 17 → q ≠ 22 → q ≠ 23 → q ≠ 30 → q ≠ 31 → I2 126 q = I 126 q
theorem gm_qf_tr {I I2 I3 : Nat → Nat → Int32} (h : gm_qf I I2) (h' : gm_qf I2 I3) : gm_qf I I3 := ⟨fun p a b c d e f g i j k => (h'.1 p a b c d e f g i j k).trans (h.1 p a b c d e f g i j k), fun q a => (h'.2.1 q a).trans (h.2.1 q a), fun q a b c d e f g i => (h'.2.2 q a b c d e f g i).trans (h.2.2 q a b c d e f g i)⟩
theorem gm_qf_rf (I : Nat → Nat → Int32) : gm_qf I I := ⟨fun _ _ _ _ _ _ _ _ _ _ _ => rfl, fun _ _ => rfl, fun _ _ _ _ _ _ _ _ _ => rfl⟩
theorem gm_qf_M {I I2 : Nat → Nat → Int32} (h : gm_qf I I2) : gz_M I2 = gz_M I := gz_M_eq (fun k hk => h.2.2 k (by omega) (by omega) (by omega) (by omega) (by omega) (by omega) (by omega) (by omega)) (h.1 127 (by omega) (by omega) (by omega) (by omega) (by omega) (by omega) (by omega) (by omega) (by omega) (by omega)) (h.1 129 (by omega) (by omega) (by omega) (by omega) (by omega) (by omega) (by omega) (by omega) (by omega) (by omega))
theorem gm_qf_now {I I2 : Nat → Nat → Int32} {W N h0 L bc : Nat} (h : gm_qf I I2) (hn : gm_now I W N h0 L bc) : gm_now I2 W N h0 L bc := by
  obtain ⟨a1, a2, a3, a4, a5⟩ := hn
  exact ⟨by rw [gm_qf_M h]; exact a1, by rw [h.2.1 12 (by omega)]; exact a2, a3, by rw [h.2.2 0 (by omega) (by omega) (by omega) (by omega) (by omega) (by omega) (by omega) (by omega)]; exact a4, a5⟩
/-- less: the winds as they blow stay too -/
def gm_rf (I I2 : Nat → Nat → Int32) : Prop := (∀ p, p ≠ 126 → p ≠ 133 → p ≠ 135 → I2 p = I p) ∧ (∀ q, ¬ (13 ≤ q ∧ q < 26) → I2 133 q = I 133 q) ∧ ∀ q, q ≠ 22 → I2 126 q = I 126 q
theorem gm_rf_q {I I2 : Nat → Nat → Int32} (h : gm_rf I I2) : gm_qf I I2 := ⟨fun p a _ _ _ _ b c _ _ _ => h.1 p a b c, fun q a => h.2.1 q (by omega), fun q _ _ _ _ a _ _ _ => h.2.2 q a⟩
abbrev mq_run (n : Nat) (I : Nat → Nat → Int32) (J : Nat → Nat → Int64) (N h0 L bc : Nat) (pl so : Int32) : Option Value → gw_W → Prop := fun v w' => ∃ I2, w' = gS n I2 J ∧ v = some (.int (gq_cm (gz_M I) (fun q => I 128 (h0 + q)) (fun q => gz_in pl (Int32.ofNat (h0 + q))) bc (I 133 10) (I 133) (fun m => gz_in so (Int32.ofNat m)) N L)) ∧ I2 126 22 = gq_hd (gz_M I) (fun q => I 128 (h0 + q)) (fun q => gz_in pl (Int32.ofNat (h0 + q))) bc (I 133 10) (I 133) N L ∧ gm_rf I I2
theorem m_run {V : gw_V} {n W N : Nat} {I : Nat → Nat → Int32} {J : Nat → Nat → Int64} (h0 L bc : Nat) (pl so : Int32) (hn : gm_now I W N h0 L bc) (hb : ∀ h, h < W → I 128 h = -1 ∨ I 128 h = 0 ∨ I 128 h = 1) : gw_E V 134 (0, [(0, .ref 126), (1, .int pl), (2, .int so)], [], gS n I J, 0, 0) (mq_run n I J N h0 L bc pl so) := by
  obtain ⟨hok, hh, hW, hbc, hbc9⟩ := hn
  obtain ⟨hW0, hW8, hN, hN6, -, -, -, -, hns⟩ := id hok
  have hW0 : I 126 3 = Int32.ofNat W := hW0
  have hns1 : ∀ m, m < N → 0 ≤ gz_M I 2 m ∧ gz_M I 2 m ≤ 9 := fun m hm => (hns m hm).1
  generalize hwd : (fun q => I 128 (h0 + q)) = wd
  generalize hpl : (fun q => gz_in pl (Int32.ofNat (h0 + q))) = pf
  have lp : ∀ (m g : Nat), m + g = L → ∀ I1 x, x = gq_cm (gz_M I) wd pf bc (I 133 10) (I 133) (fun m => gz_in so (Int32.ofNat m)) N g → (∀ c, c < 10 → I1 133 (13 + c) = gq_sq (gz_M I) wd pf bc (I 133 10) (I 133) g c) → I1 133 23 = I 133 10 → I1 133 25 = Int32.ofNat (h0 + g) → I1 126 22 = gq_hd (gz_M I) wd pf bc (I 133 10) (I 133) N g → gm_rf I I1 → gw_E V 134 (13, [(0, .ref 126), (1, .int pl), (2, .int so), (3, .int x)], [], gS n I1 J, 0, 0) (mq_run n I J N h0 L bc pl so) := by
    intro m
    induction m with
    | zero =>
      intro g hg I1 x hx h1 h2 h3 h4 h5
      obtain rfl : g = L := by omega
      have hW1 : I1 126 3 = Int32.ofNat W := by rw [h5.2.2 3 (by omega)]; exact hW0
      refine gs_aload_n (pc := 13) (gd gk_134 9 rfl) rfl ?_
      refine gs_getR (r := 133) (pc := 14) (gd gk_134 10 rfl) rfl rfl rfl (by decide) ?_
      refine gs_bipush (pc := 17) (gd gk_134 11 rfl) (25) rfl ?_
      refine gs_ialoadK (25) (52) (pc := 19) (gd gk_134 12 rfl) (Or.inl rfl) rfl (by decide) (by first | rfl | (simp only [Int32.ofNat_add, Int32.ofNat_mul]; rfl) | (simp only [Int32.ofNat_add, Int32.ofNat_mul])) (by omega) ?_
      refine gs_as (Int32.ofNat (h0 + g)) (h3) ?_
      refine gs_aload_n (pc := 20) (gd gk_134 13 rfl) rfl ?_
      refine gs_getI (pc := 21) (gd gk_134 14 rfl) rfl rfl ?_
      refine gs_as (Int32.ofNat W) (hW1) ?_
      refine gs_icmp_ge (pc := 24) (gd gk_134 15 rfl) (fun c24 => ?_) (fun c24 => ?_)
      · replace c24 : W ≤ (h0 + g) := (zle (k := W) (m := (h0 + g)) (by omega) (by omega)).mp c24
        refine gs_iload_n (pc := 64) (gd gk_134 38 rfl) rfl ?_
        -- end 1: ireturn x, pc 65, locals [(0, .ref (126)), (1, .int (pl)), (2, .int (so)), (3, .int (x))]
        exact gs_iret (pc := 65) (gd gk_134 39 rfl) rfl (rfl) (Nat.zero_le _) (Nat.zero_le _) (⟨I1, rfl, by rw [hx, ← hwd, ← hpl], by rw [h4, ← hwd, ← hpl], h5⟩)
      · replace c24 : ¬ (W ≤ (h0 + g)) := fun q9 => c24 ((zle (k := W) (m := (h0 + g)) (by omega) (by omega)).mpr q9)
        -- end 2: stop, pc 27, locals [(0, .ref (126)), (1, .int (pl)), (2, .int (so)), (3, .int (x))]
        exact absurd c24 (by omega)
    | succ m ih =>
      intro g hg I1 x hx h1 h2 h3 h4 h5
      have hW1 : I1 126 3 = Int32.ofNat W := by rw [h5.2.2 3 (by omega)]; exact hW0
      have hM1 : gz_M I1 = gz_M I := gm_qf_M (gm_rf_q h5)
      have hok1 : gq_ok (gz_M I1) W N := by rw [hM1]; exact hok
      have hbg : I1 128 (h0 + g) = wd g := by rw [h5.1 128 (by omega) (by omega) (by omega), ← hwd]
      have hwdg : wd g = -1 ∨ wd g = 0 ∨ wd g = 1 := by rw [← hwd]; exact hb (h0 + g) (by omega)
      have hpg : gz_in pl (Int32.ofNat (h0 + g)) = pf g := by rw [← hpl]
      have hL1 : ∀ c, c < 10 → gz_L I1 1 c = gq_sq (gz_M I) wd pf bc (I 133 10) (I 133) g c := h1
      refine gs_aload_n (pc := 13) (gd gk_134 9 rfl) rfl ?_
      refine gs_getR (r := 133) (pc := 14) (gd gk_134 10 rfl) rfl rfl rfl (by decide) ?_
      refine gs_bipush (pc := 17) (gd gk_134 11 rfl) (25) rfl ?_
      refine gs_ialoadK (25) (52) (pc := 19) (gd gk_134 12 rfl) (Or.inl rfl) rfl (by decide) (by first | rfl | (simp only [Int32.ofNat_add, Int32.ofNat_mul]; rfl) | (simp only [Int32.ofNat_add, Int32.ofNat_mul])) (by omega) ?_
      refine gs_as (Int32.ofNat (h0 + g)) (h3) ?_
      refine gs_aload_n (pc := 20) (gd gk_134 13 rfl) rfl ?_
      refine gs_getI (pc := 21) (gd gk_134 14 rfl) rfl rfl ?_
      refine gs_as (Int32.ofNat W) (hW1) ?_
      refine gs_icmp_ge (pc := 24) (gd gk_134 15 rfl) (fun c24 => ?_) (fun c24 => ?_)
      · replace c24 : W ≤ (h0 + g) := (zle (k := W) (m := (h0 + g)) (by omega) (by omega)).mp c24
        refine gs_iload_n (pc := 64) (gd gk_134 38 rfl) rfl ?_
        -- end 1: ireturn x, pc 65, locals [(0, .ref (126)), (1, .int (pl)), (2, .int (so)), (3, .int (x))]
        exact absurd c24 (by omega)
      · replace c24 : ¬ (W ≤ (h0 + g)) := fun q9 => c24 ((zle (k := W) (m := (h0 + g)) (by omega) (by omega)).mpr q9)
        refine gs_iload_n (pc := 27) (gd gk_134 16 rfl) rfl ?_
        refine gs_aload_n (pc := 28) (gd gk_134 17 rfl) rfl ?_
        refine gs_iconst (pc := 29) (gd gk_134 18 rfl) (1) rfl ?_
        refine gs_iload_n (pc := 30) (gd gk_134 19 rfl) rfl ?_
        refine gs_aload_n (pc := 31) (gd gk_134 20 rfl) rfl ?_
        refine gs_getR (r := 133) (pc := 32) (gd gk_134 21 rfl) rfl rfl rfl (by decide) ?_
        refine gs_bipush (pc := 35) (gd gk_134 22 rfl) (25) rfl ?_
        refine gs_ialoadK (25) (52) (pc := 37) (gd gk_134 23 rfl) (Or.inl rfl) rfl (by decide) (by first | rfl | (simp only [Int32.ofNat_add, Int32.ofNat_mul]; rfl) | (simp only [Int32.ofNat_add, Int32.ofNat_mul])) (by omega) ?_
        refine gs_as (Int32.ofNat (h0 + g)) (h3) ?_
        refine gs_callS (as := [.int (pl), .int (Int32.ofNat (h0 + g))]) (pc := 38) (gd gk_134 24 rfl) (by decide) rfl rfl (Nat.le_of_ble_eq_true rfl) gq_134_108 (Nat.le_of_ble_eq_true rfl) (c_mhas (pl) (Int32.ofNat (h0 + g))) (fun r_38 w_38 q_38 => ?_)
        obtain ⟨rfl, rfl⟩ := q_38
        refine gs_iload_n (pc := 41) (gd gk_134 25 rfl) rfl ?_
        refine gs_callV (as := [.int (1), .int ((gz_b (gz_in (pl) (Int32.ofNat (h0 + g))))), .int (so)]) (pc := 42) (gd gk_134 26 rfl) (by decide) rfl (by decide) rfl rfl (Nat.le_of_ble_eq_true rfl) gq_134_127 (Nat.le_of_ble_eq_true rfl) (m_pass (W := W) (N := N) 1 (h0 + g) bc (gz_in pl (Int32.ofNat (h0 + g))) so (wd g) (by omega) hok1 h3 (by omega) hbg hwdg (by rw [h5.2.2 0 (by omega)]; exact hbc) hbc9) (fun r_42 w_42 q_42 => ?_)
        obtain ⟨I_p, rfl, rfl, p1, p2, p3, p4, p5⟩ := q_42
        rw [hM1, hpg] at p1
        have p1 : ∀ c, c < 10 → I_p 133 (13 + c) = gq_sq (gz_M I) wd pf bc (I 133 10) (I 133) (g + 1) c := fun c hc => by rw [show 13 + c = 13 * 1 + c from rfl, p1 c hc, gq_st_c hL1, show I1 133 (13 * 1 + 10) = I1 133 23 from rfl, h2]; rfl
        have hMp : gz_M I_p = gz_M I := by rw [gz_M_eq (I := I1) (fun k _ => by rw [p5 126 (by omega) (by omega)]) (p5 127 (by omega) (by omega)) (p5 129 (by omega) (by omega))]; exact hM1
        have hokp : gq_ok (gz_M I_p) W N := by rw [hMp]; exact hok
        refine gs_iadd (pc := 45) (gd gk_134 27 rfl) ?_
        refine gs_istore_n (ls2 := fun v => [(0, .ref (126)), (1, .int (pl)), (2, .int (so)), (3, .int (v))]) (pc := 46) (gd gk_134 28 rfl) (by rw [gL_134]; decide) (fun _ => rfl) (fun v3_1 hv3_1 => ?_)
        refine gs_aload_n (pc := 47) (gd gk_134 29 rfl) rfl ?_
        refine gs_dup (pc := 48) (gd gk_134 30 rfl) rfl ?_
        refine gs_getI (pc := 49) (gd gk_134 31 rfl) rfl rfl ?_
        refine gs_aload_n (pc := 52) (gd gk_134 32 rfl) rfl ?_
        refine gs_iconst (pc := 53) (gd gk_134 33 rfl) (1) rfl ?_
        refine gs_callV (as := [.int (1)]) (pc := 54) (gd gk_134 34 rfl) (by decide) rfl (by decide) rfl rfl (Nat.le_of_ble_eq_true rfl) gq_134_122 (Nat.le_of_ble_eq_true rfl) (m_who (W := W) (N := N) 1 (by omega) hokp) (fun r_54 w_54 q_54 => ?_)
        obtain ⟨rfl, rfl⟩ := q_54
        refine gs_ior (pc := 57) (gd gk_134 35 rfl) ?_
        refine gs_putI (pc := 58) (gd gk_134 36 rfl) rfl rfl rfl rfl (fun I_1 hI_1 => ?_)
        refine gs_goto (pc := 61) (gd gk_134 37 rfl) ?_
        -- end 2: stop, pc 13, locals [(0, .ref (126)), (1, .int (pl)), (2, .int (so)), (3, .int (v3_1))]
        have eS : ∀ c, c < 10 → gq_st (gz_M I) (wd g) (pf g) bc (I 133 10) (gz_L I1 1) c = gq_sq (gz_M I) wd pf bc (I 133 10) (I 133) (g + 1) c := fun c hc => by rw [gq_st_c hL1]; rfl
        have e133 : I_1 133 = I_p 133 := by rw [hI_1, gw_u_o (by omega)]
        refine ih (g + 1) (by omega) I_1 _ ?_ (fun c hc => by rw [e133]; exact p1 c hc) ?_ ?_ ?_ ⟨fun p q1 q2 q3 => ?_, fun q hq => ?_, fun q hq => ?_⟩
        · rw [hv3_1, hx, hM1, hpg, show I1 133 (13 * 1 + 10) = I 133 10 from h2, gq_hc_c eS hns1]; rfl
        · rw [e133, p4 23 (by omega) (by omega) (by omega)]; exact h2
        · rw [e133]; exact p3
        · rw [hI_1, gw_u_s, hMp, gq_who_c (s1 := gz_L I_p 1) (s2 := gq_sq (gz_M I) wd pf bc (I 133 10) (I 133) (g + 1)) (fun c hc => p1 c hc) hns1, p5 126 (by omega) (by omega), h4]; simp [upd]; rfl
        · rw [hI_1, gw_u_o q1, p5 p q2 q3]; exact h5.1 p q1 q2 q3
        · rw [e133, p4 q (by omega) (by omega) (by omega)]; exact h5.2.1 q hq
        · rw [hI_1, gw_u_s]; unfold upd; rw [if_neg hq, p5 126 (by omega) (by omega)]; exact h5.2.2 q hq
  refine gs_aload_n (pc := 0) (gd gk_134 0 rfl) rfl ?_
  refine gs_iconst (pc := 1) (gd gk_134 1 rfl) (0) rfl ?_
  refine gs_iconst (pc := 2) (gd gk_134 2 rfl) (1) rfl ?_
  refine gs_callV (as := [.int (0), .int (1)]) (pc := 3) (gd gk_134 3 rfl) (by decide) rfl (by decide) rfl rfl (Nat.le_of_ble_eq_true rfl) gq_134_129 (Nat.le_of_ble_eq_true rfl) (m_lay 0 1 (by omega) (by omega) (by omega)) (fun r_3 w_3 q_3 => ?_)
  obtain ⟨rfl, I_l, rfl, l1, l2, l3⟩ := q_3
  refine gs_aload_n (pc := 6) (gd gk_134 4 rfl) rfl ?_
  refine gs_iconst (pc := 7) (gd gk_134 5 rfl) (0) rfl ?_
  refine gs_putI (pc := 8) (gd gk_134 6 rfl) rfl rfl rfl rfl (fun I_1 hI_1 => ?_)
  refine gs_iconst (pc := 11) (gd gk_134 7 rfl) (0) rfl ?_
  refine gs_istore_n (ls2 := fun v => [(0, .ref (126)), (1, .int (pl)), (2, .int (so)), (3, .int (v))]) (pc := 12) (gd gk_134 8 rfl) (by rw [gL_134]; decide) (fun _ => rfl) (fun v3_1 hv3_1 => ?_)
  obtain rfl : v3_1 = Int32.ofNat 0 := hv3_1.trans (by first | rfl | (simp only [Int32.ofNat_add, Int32.ofNat_mul]; rfl) | (simp only [Int32.ofNat_add, Int32.ofNat_mul]))
  -- end 1: stop, pc 13, locals [(0, .ref (126)), (1, .int (pl)), (2, .int (so)), (3, .int (Int32.ofNat 0))]
  have e133 : I_1 133 = I_l 133 := by rw [hI_1, gw_u_o (by omega)]
  refine lp L 0 (by omega) I_1 _ rfl (fun c hc => by rw [e133]; exact (l1 c (by omega)).trans (by rw [show 13 * 0 + c = c by omega]; rfl)) (by rw [e133]; exact l1 10 (by omega)) (by rw [e133]; exact (l1 12 (by omega)).trans hh) (by rw [hI_1, gw_u_s]; rfl) ⟨fun p q1 q2 q3 => by rw [hI_1, gw_u_o q1, l3 p q2], fun q hq => by rw [e133]; exact l2 q (by omega), fun q hq => ?_⟩
  rw [hI_1, gw_u_s]; unfold upd; rw [if_neg hq, l3 126 (by omega)]
