/-! ===== when: the class ===== -/
theorem gq_ag_c {A B : Nat → Nat → Bool} {W N : Nat} {no ho : Nat → Nat} {hd : Nat → Bool} (h : ∀ g, g < W → ∀ m, m < N → A g m = B g m) : ∀ k, gq_ag A W N no ho hd k = gq_ag B W N no ho hd k
  | 0 => rfl
  | k + 1 => by
    unfold gq_ag
    rw [gq_ag_c h k]
    by_cases h1 : no k < N
    · by_cases h2 : ho k < W
      · rw [h _ h2 _ h1]
      · rw [decide_eq_false h2]; simp
    · rw [decide_eq_false h1]; simp
/-- the plans by which all was as seen -/
def gq_sp (σ : Nat → Nat → Int32) (W N bc sz : Nat) (no ho : Nat → Nat) (hd : Nat → Bool) : Nat → Bool := fun p => gq_ag (gq_A σ bc 0 (fun _ => 0) p) W N no ho hd sz
def gq_wn (x : Int32) (c : Nat) (a b : Int32) : Int32 := if gz_rg x 0 2 then (if x = 0 then Int32.ofNat c else if c = 0 then -99 else if x = 1 then a else b) else -2
section
variable {V : gw_V} {n W N h0 L bc : Nat} {I : Nat → Nat → Int32} {J : Nat → Nat → Int64}
theorem c_when (x : Int32) (sz : Nat) (no ho : Nat → Nat) (hd : Nat → Bool) (hs : gz_si I sz no ho hd) (hn : gq_now I W N h0 L bc) : gw_E V 84 (0, [(0, .ref 3), (1, .int x)], [], gS n I J, 0, 0) (fun v w' => ∃ I2, w' = gS n I2 J ∧ v = some (.int (gq_wn x (gq_cn (gq_sp (gz_S I) W N bc sz no ho hd) (fun k => gz_sn k 0 W W) (2 ^ W)) (gq_al (gq_sp (gz_S I) W N bc sz no ho hd) (fun k => gz_sn k 0 W W) (Int32.ofNat (2 ^ W) - 1) (2 ^ W)) (gq_no (gq_sp (gz_S I) W N bc sz no ho hd) (fun k => gz_sn k 0 W W) (Int32.ofNat (2 ^ W) - 1) (2 ^ W)))) ∧ (∀ p, p ≠ 53 → ¬ (57 ≤ p ∧ p ≤ 125) → p ≠ 14 → p ≠ 15 → I2 p = I p) ∧ I2 78 0 = I 78 0 ∧ I2 79 0 = I 79 0 ∧ I2 69 = I 69 ∧ I2 53 3 = I 53 3) := by
  obtain ⟨hok, hh, hW, hbc, hb9, h78, h79, h69⟩ := id hn
  have hW8 : W ≤ 8 := hok.2.1
  have hpw : 2 ^ W ≤ 256 := Nat.le_trans (Nat.pow_le_pow_right (by omega) (show W ≤ 8 by omega)) (by decide)
  generalize hC : gq_cn (gq_sp (gz_S I) W N bc sz no ho hd) (fun k => gz_sn k 0 W W) (2 ^ W) = C
  have hC2 : C ≤ 256 := by rw [← hC]; have := gq_cn_le (gq_sp (gz_S I) W N bc sz no ho hd) (fun k => gz_sn k 0 W W) (2 ^ W); omega
  refine gs_iload_n (pc := 0) (gd gk_84 0 rfl) rfl ?_
  refine gs_if_lt (pc := 1) (gd gk_84 1 rfl) (fun c1 => ?_) (fun c1 => ?_)
  · refine gs_bipush (pc := 9) (gd gk_84 5 rfl) (-2) rfl ?_
    -- end 1: ireturn (-2), pc 11, locals [(0, .ref (3)), (1, .int (x))]
    have hr : ¬ gz_rg x 0 2 = true := fun q => absurd c1 (Int32.not_lt.mpr (gz_rg_t.mp q).1)
    exact gs_iret (pc := 11) (gd gk_84 6 rfl) rfl (rfl) (Nat.zero_le _) (Nat.zero_le _) (⟨I, rfl, by unfold gq_wn; rw [if_neg hr], fun _ _ _ _ _ => rfl, rfl, rfl, rfl, rfl⟩)
  · refine gs_iload_n (pc := 4) (gd gk_84 2 rfl) rfl ?_
    refine gs_iconst (pc := 5) (gd gk_84 3 rfl) (2) rfl ?_
    refine gs_icmp_le (pc := 6) (gd gk_84 4 rfl) (fun c6 => ?_) (fun c6 => ?_)
    · refine gs_aload_n (pc := 12) (gd gk_84 7 rfl) rfl ?_
      refine gs_getR (r := 14) (pc := 13) (gd gk_84 8 rfl) rfl rfl rfl (by decide) ?_
      refine gs_callV (as := []) (pc := 16) (gd gk_84 9 rfl) (by decide) rfl (by decide) rfl rfl (Nat.le_of_ble_eq_true rfl) gq_84_13 (Nat.le_of_ble_eq_true rfl) (c_begin_14) (fun r_16 w_16 q_16 => ?_)
      obtain ⟨rfl, I_b, rfl, b1, b2, b3, b4, b5⟩ := q_16
      have bS : gz_S I_b = gz_S I := gz_S_eq (fun p _ _ => b5 p (by omega) (by omega))
      refine gs_aload_n (pc := 19) (gd gk_84 10 rfl) rfl ?_
      refine gs_getR (r := 57) (pc := 20) (gd gk_84 11 rfl) rfl rfl rfl (by decide) ?_
      refine gs_aload_n (pc := 23) (gd gk_84 12 rfl) rfl ?_
      refine gs_getR (r := 14) (pc := 24) (gd gk_84 13 rfl) rfl rfl rfl (by decide) ?_
      refine gs_aload_n (pc := 27) (gd gk_84 14 rfl) rfl ?_
      refine gs_getR (r := 6) (pc := 28) (gd gk_84 15 rfl) rfl rfl rfl (by decide) ?_
      refine gs_getI (pc := 31) (gd gk_84 16 rfl) rfl rfl ?_
      refine gs_as (Int32.ofNat bc) (by rw [b5 6 (by omega) (by omega)]; exact hbc) ?_
      refine gs_callV (as := [.ref (14), .int (Int32.ofNat bc)]) (pc := 34) (gd gk_84 17 rfl) (by decide) rfl (by decide) rfl rfl (Nat.le_of_ble_eq_true rfl) gq_84_50 (Nat.le_of_ble_eq_true rfl) (c_start_sup (W := W) (N := N) bc 0 W (by rw [bS]; exact hok) b4 (by omega) hb9 (by rw [b5 78 (by omega) (by omega)]; exact h78) (by rw [b5 79 (by omega) (by omega)]; exact h79) (by rw [b5 69 (by omega) (by omega)]; exact h69)) (fun r_34 w_34 q_34 => ?_)
      obtain ⟨rfl, I_s, rfl, s1, s2, s3, s4⟩ := q_34
      refine gs_aload_n (pc := 37) (gd gk_84 18 rfl) rfl ?_
      refine gs_getR (r := 53) (pc := 38) (gd gk_84 19 rfl) rfl rfl rfl (by decide) ?_
      refine gs_aload_n (pc := 41) (gd gk_84 20 rfl) rfl ?_
      refine gs_getR (r := 6) (pc := 42) (gd gk_84 21 rfl) rfl rfl rfl (by decide) ?_
      refine gs_aload_n (pc := 45) (gd gk_84 22 rfl) rfl ?_
      refine gs_getR (r := 57) (pc := 46) (gd gk_84 23 rfl) rfl rfl rfl (by decide) ?_
      refine gs_callV (as := [.ref (6), .ref (57)]) (pc := 49) (gd gk_84 24 rfl) (by decide) rfl (by decide) rfl rfl (Nat.le_of_ble_eq_true rfl) gq_84_25 (Nat.le_of_ble_eq_true rfl) (c_explain sz no ho hd (gz_si_o hs (by rw [s1 53 (by omega) (by omega), b5 53 (by omega) (by omega)]) (fun p q1 q2 => by rw [s1 p (by omega) (by omega), b5 p (by omega) (by omega)])) s2) (fun r_49 w_49 q_49 => ?_)
      obtain ⟨rfl, I_e, rfl, e1, e2, e3, e4, e5, e6, e7, e8⟩ := q_49
      have hS : gz_S I_s = gz_S I := by rw [gq_qf_S (gq_qf_s s1), bS]
      have hag : (fun p => gq_ag (gq_A (gz_S I_s) bc (I_s 57 6) (I_s 59) p) W N no ho hd sz) = gq_sp (gz_S I) W N bc sz no ho hd := by
        funext p
        unfold gq_sp
        rw [hS, s3, b2]
        exact gq_ag_c (fun g _ m hm => gq_has_c (gq_sq_c (fun c hc => by rw [s4 c hc, b1 c hc]) (g + 1)) (gq_ok_n hok m hm)) sz
      rw [hag] at e6 e7 e8
      have fr : (∀ p, p ≠ 53 → ¬ (57 ≤ p ∧ p ≤ 125) → p ≠ 14 → p ≠ 15 → I_e p = I p) ∧ I_e 78 0 = I 78 0 ∧ I_e 79 0 = I 79 0 ∧ I_e 69 = I 69 ∧ I_e 53 3 = I 53 3 := ⟨fun p q1 q2 q3 q4 => by rw [e1 p q1 q2 q3 q4, s1 p (by omega) (by omega), b5 p q3 q4], by rw [e2, s1 78 (by omega) (by omega), b5 78 (by omega) (by omega)], by rw [e3, s1 79 (by omega) (by omega), b5 79 (by omega) (by omega)], by rw [e4, s1 69 (by omega) (by omega), b5 69 (by omega) (by omega)], by rw [e5, s1 53 (by omega) (by omega), b5 53 (by omega) (by omega)]⟩
      have hr : gz_rg x 0 2 = true := gz_rg_t.mpr ⟨Int32.not_lt.mp c1, c6⟩
      rw [hC] at e6
      refine gs_iload_n (pc := 52) (gd gk_84 25 rfl) rfl ?_
      refine gs_if_ne (pc := 53) (gd gk_84 26 rfl) (fun c53 => ?_) (fun c53 => ?_)
      · refine gs_aload_n (pc := 64) (gd gk_84 31 rfl) rfl ?_
        refine gs_getR (r := 53) (pc := 65) (gd gk_84 32 rfl) rfl rfl rfl (by decide) ?_
        refine gs_getI (pc := 68) (gd gk_84 33 rfl) rfl rfl ?_
        refine gs_if_ne (pc := 71) (gd gk_84 34 rfl) (fun c71 => ?_) (fun c71 => ?_)
        · refine gs_iload_n (pc := 77) (gd gk_84 37 rfl) rfl ?_
          refine gs_iconst (pc := 78) (gd gk_84 38 rfl) (1) rfl ?_
          refine gs_icmp_ne (pc := 79) (gd gk_84 39 rfl) (fun c79 => ?_) (fun c79 => ?_)
          · refine gs_aload_n (pc := 92) (gd gk_84 44 rfl) rfl ?_
            refine gs_getR (r := 53) (pc := 93) (gd gk_84 45 rfl) rfl rfl rfl (by decide) ?_
            refine gs_getI (pc := 96) (gd gk_84 46 rfl) rfl rfl ?_
            -- end 2: ireturn (I_e 53 6), pc 99, locals [(0, .ref (3)), (1, .int (x))]
            have hC0 : ¬ C = 0 := fun e => c71 (by rw [e6, e]; rfl)
            exact gs_iret (pc := 99) (gd gk_84 47 rfl) rfl (rfl) (Nat.zero_le _) (Nat.zero_le _) (⟨I_e, rfl, by unfold gq_wn; rw [if_pos hr, if_neg c53, if_neg hC0, if_neg c79, e8], fr⟩)
          · refine gs_aload_n (pc := 82) (gd gk_84 40 rfl) rfl ?_
            refine gs_getR (r := 53) (pc := 83) (gd gk_84 41 rfl) rfl rfl rfl (by decide) ?_
            refine gs_getI (pc := 86) (gd gk_84 42 rfl) rfl rfl ?_
            refine gs_goto (pc := 89) (gd gk_84 43 rfl) ?_
            -- end 3: ireturn (I_e 53 5), pc 99, locals [(0, .ref (3)), (1, .int (x))]
            have hC0 : ¬ C = 0 := fun e => c71 (by rw [e6, e]; rfl)
            exact gs_iret (pc := 99) (gd gk_84 47 rfl) rfl (rfl) (Nat.zero_le _) (Nat.zero_le _) (⟨I_e, rfl, by unfold gq_wn; rw [if_pos hr, if_neg c53, if_neg hC0, if_pos c79, e7], fr⟩)
        · refine gs_bipush (pc := 74) (gd gk_84 35 rfl) (-99) rfl ?_
          -- end 4: ireturn (-99), pc 76, locals [(0, .ref (3)), (1, .int (x))]
          have hC0 : C = 0 := (zeq (k := C) (m := 0) (by omega) (by omega)).mp (e6.symm.trans c71)
          exact gs_iret (pc := 76) (gd gk_84 36 rfl) rfl (rfl) (Nat.zero_le _) (Nat.zero_le _) (⟨I_e, rfl, by unfold gq_wn; rw [if_pos hr, if_neg c53, if_pos hC0], fr⟩)
      · refine gs_aload_n (pc := 56) (gd gk_84 27 rfl) rfl ?_
        refine gs_getR (r := 53) (pc := 57) (gd gk_84 28 rfl) rfl rfl rfl (by decide) ?_
        refine gs_getI (pc := 60) (gd gk_84 29 rfl) rfl rfl ?_
        -- end 5: ireturn (I_e 53 4), pc 63, locals [(0, .ref (3)), (1, .int (x))]
        exact gs_iret (pc := 63) (gd gk_84 30 rfl) rfl (rfl) (Nat.zero_le _) (Nat.zero_le _) (⟨I_e, rfl, by unfold gq_wn; rw [if_pos hr, if_pos c53, e6], fr⟩)
    · refine gs_bipush (pc := 9) (gd gk_84 5 rfl) (-2) rfl ?_
      -- end 6: ireturn (-2), pc 11, locals [(0, .ref (3)), (1, .int (x))]
      have hr : ¬ gz_rg x 0 2 = true := fun q => absurd (gz_rg_t.mp q).2 c6
      exact gs_iret (pc := 11) (gd gk_84 6 rfl) rfl (rfl) (Nat.zero_le _) (Nat.zero_le _) (⟨I, rfl, by unfold gq_wn; rw [if_neg hr], fun _ _ _ _ _ => rfl, rfl, rfl, rfl, rfl⟩)
end
