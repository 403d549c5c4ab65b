/-! ===== the class: follow, by, had, best ===== -/
theorem gq_res_c {I : Nat → Nat → Int32} {N L : Nat} {σ : Nat → Nat → Int32} {wd : Nat → Int32} {pl : Nat → Bool} {bc : Nat} {ch : Int32} {s1 s2 : Nat → Int32} (h : ∀ c, c < 10 → s1 c = s2 c) (hn : ∀ m, m < N → 0 ≤ σ 2 m ∧ σ 2 m ≤ 9) (hr : gq_res I N L σ wd pl bc ch s1) : gq_res I N L σ wd pl bc ch s2 := fun g hg => by
  obtain ⟨a1, a2, a3, a4, a5⟩ := hr g hg
  exact ⟨fun c hc => (a1 c hc).trans (gq_sq_c h g c hc), fun m hm => (a2 m hm).trans (gq_pd_c h (hn m hm) g), a3.trans (gq_cm_c h hn g), a4.trans (gq_hd_c h hn g), fun g0 => (a5 g0).trans (gq_who_c (fun c hc => gq_sq_c h g c hc) hn)⟩
theorem gq_ok_n {σ : Nat → Nat → Int32} {W N : Nat} (h : gq_ok σ W N) : ∀ m, m < N → 0 ≤ σ 2 m ∧ σ 2 m ≤ 9 := by
  obtain ⟨-, -, -, -, -, -, -, -, hns⟩ := h
  exact fun m hm => (hns m hm).1
theorem gq_now_qf {I I2 : Nat → Nat → Int32} {W N h0 L bc : Nat} (h : gq_qf I I2) (hn : gq_now I W N h0 L bc) : gq_now I2 W N h0 L bc := by
  obtain ⟨a1, a2, a3, a4, a5, a6, a7, a8⟩ := hn
  exact ⟨by rw [gq_qf_S h]; exact a1, by rw [h.1 12 (by omega) (by omega) (by omega)]; exact a2, a3, by rw [h.1 6 (by omega) (by omega) (by omega)]; exact a4, a5, by rw [h.2.1]; exact a6, by rw [h.2.2.1]; exact a7, by rw [h.2.2.2]; exact a8⟩
/-- the winds as they blow, from the hour on -/
abbrev gq_w0 (σ : Nat → Nat → Int32) (h0 : Nat) : Nat → Int32 := fun q => gq_wd σ 0 (h0 + q)
abbrev gq_p0 (pl : Int32) (h0 : Nat) : Nat → Bool := fun q => gz_in pl (Int32.ofNat (h0 + q))
section
variable {V : gw_V} {n W N h0 L bc : Nat} {I : Nat → Nat → Int32} {J : Nat → Nat → Int64}
theorem c_follow (pl : Int32) (hn : gq_now I W N h0 L bc) : gw_E V 98 (0, [(0, .ref 3), (1, .int pl)], [], gS n I J, 0, 0) (fun v w' => v = none ∧ ∃ I2, w' = gS n I2 J ∧ gq_qf I I2 ∧ gq_on I2 W N h0 L bc ∧ gq_res I2 N L (gz_S I) (gq_w0 (gz_S I) h0) (gq_p0 pl h0) bc (I 12 1) (I 13)) := by
  obtain ⟨hok, hh, hW, hbc, hb9, h78, h79, h69⟩ := hn
  refine gs_aload_n (pc := 0) (gd gk_98 0 rfl) rfl ?_
  refine gs_getR (r := 57) (pc := 1) (gd gk_98 1 rfl) rfl rfl rfl (by decide) ?_
  refine gs_aload_n (pc := 4) (gd gk_98 2 rfl) rfl ?_
  refine gs_getR (r := 12) (pc := 5) (gd gk_98 3 rfl) rfl rfl rfl (by decide) ?_
  refine gs_aload_n (pc := 8) (gd gk_98 4 rfl) rfl ?_
  refine gs_getR (r := 6) (pc := 9) (gd gk_98 5 rfl) rfl rfl rfl (by decide) ?_
  refine gs_getI (pc := 12) (gd gk_98 6 rfl) rfl rfl ?_
  refine gs_as (Int32.ofNat bc) (hbc) ?_
  refine gs_callV (as := [.ref (12), .int (Int32.ofNat bc)]) (pc := 15) (gd gk_98 7 rfl) (by decide) rfl (by decide) rfl rfl (Nat.le_of_ble_eq_true rfl) gq_98_50 (Nat.le_of_ble_eq_true rfl) (c_start_now bc h0 L hok hh hW hb9 h78 h79 h69) (fun r_15 w_15 q_15 => ?_)
  obtain ⟨rfl, I_s, rfl, s1, s2, s3, s4⟩ := q_15
  refine gs_aload_n (pc := 18) (gd gk_98 8 rfl) rfl ?_
  refine gs_getR (r := 57) (pc := 19) (gd gk_98 9 rfl) rfl rfl rfl (by decide) ?_
  refine gs_iload_n (pc := 22) (gd gk_98 10 rfl) rfl ?_
  refine gs_iconst (pc := 23) (gd gk_98 11 rfl) (0) rfl ?_
  refine gs_callV (as := [.int (pl), .int (0)]) (pc := 24) (gd gk_98 12 rfl) (by decide) rfl (by decide) rfl rfl (Nat.le_of_ble_eq_true rfl) gq_98_53 (Nat.le_of_ble_eq_true rfl) (c_take2 pl 0 s2) (fun r_24 w_24 q_24 => ?_)
  obtain ⟨rfl, I_t, rfl, t1, t2, t3⟩ := q_24
  -- end 1: return, pc 27, locals [(0, .ref (3)), (1, .int (pl))]
  have hS : gz_S I_s = gz_S I := gq_qf_S (gq_qf_s s1)
  rw [hS, s3] at t3
  exact gs_ret (pc := 27) (gd gk_98 13 rfl) rfl (Nat.zero_le _) (Nat.zero_le _) (⟨rfl, I_t, rfl, gq_qf_tr (gq_qf_s s1) (gq_qf_w t1), t2, gq_res_c s4 (gq_ok_n hok) t3⟩)
theorem c_by (pl : Int32) (hn : gq_now I W N h0 L bc) : gw_E V 75 (0, [(0, .ref 3), (1, .int pl)], [], gS n I J, 0, 0) (fun v w' => v = some (.int (if gz_rg pl 0 255 then gq_cm (gz_S I) (gq_w0 (gz_S I) h0) (gq_p0 pl h0) bc (I 12 1) (I 13) (fun _ => true) N L else -1000002)) ∧ ∃ I2, w' = gS n I2 J ∧ gq_qf I I2) := by
  have hW8 : W ≤ 8 := hn.1.2.1
  have hW : h0 + L = W := hn.2.2.1
  refine gs_iload_n (pc := 0) (gd gk_75 0 rfl) rfl ?_
  refine gs_callS (as := [.int (pl)]) (pc := 1) (gd gk_75 1 rfl) (by decide) rfl rfl (Nat.le_of_ble_eq_true rfl) gq_75_94 (Nat.le_of_ble_eq_true rfl) (c_plan (pl)) (fun r_1 w_1 q_1 => ?_)
  obtain ⟨rfl, rfl⟩ := q_1
  refine gs_if_ne (pc := 4) (gd gk_75 2 rfl) (fun c4 => ?_) (fun c4 => ?_)
  · refine gs_aload_n (pc := 10) (gd gk_75 5 rfl) rfl ?_
    refine gs_iload_n (pc := 11) (gd gk_75 6 rfl) rfl ?_
    refine gs_callV (as := [.int (pl)]) (pc := 12) (gd gk_75 7 rfl) (by decide) rfl (by decide) rfl rfl (Nat.le_of_ble_eq_true rfl) gq_75_98 (Nat.le_of_ble_eq_true rfl) (c_follow pl hn) (fun r_12 w_12 q_12 => ?_)
    obtain ⟨rfl, I_f, rfl, f1, f2, f3⟩ := q_12
    refine gs_aload_n (pc := 15) (gd gk_75 8 rfl) rfl ?_
    refine gs_getR (r := 57) (pc := 16) (gd gk_75 9 rfl) rfl rfl rfl (by decide) ?_
    refine gs_callV (as := []) (pc := 19) (gd gk_75 10 rfl) (by decide) rfl (by decide) rfl rfl (Nat.le_of_ble_eq_true rfl) gq_75_58 (Nat.le_of_ble_eq_true rfl) (c_comes (L := L) f2.2.2.1 (by omega)) (fun r_19 w_19 q_19 => ?_)
    obtain ⟨rfl, rfl⟩ := q_19
    -- end 1: ireturn (I_f 78 L), pc 22, locals [(0, .ref (3)), (1, .int (pl))]
    exact gs_iret (pc := 22) (gd gk_75 11 rfl) rfl (rfl) (Nat.zero_le _) (Nat.zero_le _) (⟨by rw [(f3 L (Nat.le_refl L)).2.2.1, if_pos (gz_b_ne.mp c4)], I_f, rfl, f1⟩)
  · refine gs_ldc (pc := 7) (gd gk_75 3 rfl) (-1000002) rfl ?_
    -- end 2: ireturn (-1000002), pc 9, locals [(0, .ref (3)), (1, .int (pl))]
    exact gs_iret (pc := 9) (gd gk_75 4 rfl) rfl (rfl) (Nat.zero_le _) (Nat.zero_le _) (⟨by rw [if_neg (by rw [gz_b_eq.mp c4]; decide)], I, rfl, ⟨fun _ _ _ _ => rfl, rfl, rfl, rfl⟩⟩)
theorem c_hadp (pl : Int32) (hn : gq_now I W N h0 L bc) : gw_E V 80 (0, [(0, .ref 3), (1, .int pl)], [], gS n I J, 0, 0) (fun v w' => v = some (.int (if gz_rg pl 0 255 then gq_hd (gz_S I) (gq_w0 (gz_S I) h0) (gq_p0 pl h0) bc (I 12 1) (I 13) N L else -2)) ∧ ∃ I2, w' = gS n I2 J ∧ gq_qf I I2) := by
  have hW8 : W ≤ 8 := hn.1.2.1
  have hW : h0 + L = W := hn.2.2.1
  refine gs_iload_n (pc := 0) (gd gk_80 0 rfl) rfl ?_
  refine gs_callS (as := [.int (pl)]) (pc := 1) (gd gk_80 1 rfl) (by decide) rfl rfl (Nat.le_of_ble_eq_true rfl) gq_80_94 (Nat.le_of_ble_eq_true rfl) (c_plan (pl)) (fun r_1 w_1 q_1 => ?_)
  obtain ⟨rfl, rfl⟩ := q_1
  refine gs_if_ne (pc := 4) (gd gk_80 2 rfl) (fun c4 => ?_) (fun c4 => ?_)
  · refine gs_aload_n (pc := 10) (gd gk_80 5 rfl) rfl ?_
    refine gs_iload_n (pc := 11) (gd gk_80 6 rfl) rfl ?_
    refine gs_callV (as := [.int (pl)]) (pc := 12) (gd gk_80 7 rfl) (by decide) rfl (by decide) rfl rfl (Nat.le_of_ble_eq_true rfl) gq_80_98 (Nat.le_of_ble_eq_true rfl) (c_follow pl hn) (fun r_12 w_12 q_12 => ?_)
    obtain ⟨rfl, I_f, rfl, f1, f2, f3⟩ := q_12
    refine gs_aload_n (pc := 15) (gd gk_80 8 rfl) rfl ?_
    refine gs_getR (r := 57) (pc := 16) (gd gk_80 9 rfl) rfl rfl rfl (by decide) ?_
    refine gs_callV (as := []) (pc := 19) (gd gk_80 10 rfl) (by decide) rfl (by decide) rfl rfl (Nat.le_of_ble_eq_true rfl) gq_80_61 (Nat.le_of_ble_eq_true rfl) (c_had (L := L) f2.2.2.1 (by omega)) (fun r_19 w_19 q_19 => ?_)
    obtain ⟨rfl, rfl⟩ := q_19
    -- end 1: ireturn (I_f 79 L), pc 22, locals [(0, .ref (3)), (1, .int (pl))]
    exact gs_iret (pc := 22) (gd gk_80 11 rfl) rfl (rfl) (Nat.zero_le _) (Nat.zero_le _) (⟨by rw [(f3 L (Nat.le_refl L)).2.2.2.1, if_pos (gz_b_ne.mp c4)], I_f, rfl, f1⟩)
  · refine gs_bipush (pc := 7) (gd gk_80 3 rfl) (-2) rfl ?_
    -- end 2: ireturn (-2), pc 9, locals [(0, .ref (3)), (1, .int (pl))]
    exact gs_iret (pc := 9) (gd gk_80 4 rfl) rfl (rfl) (Nat.zero_le _) (Nat.zero_le _) (⟨by rw [if_neg (by rw [gz_b_eq.mp c4]; decide)], I, rfl, ⟨fun _ _ _ _ => rfl, rfl, rfl, rfl⟩⟩)
/-- what comes by a plan: the words of both -/
abbrev gq_vl (σ : Nat → Nat → Int32) (N h0 L bc : Nat) (ch : Int32) (s0 : Nat → Int32) (so : Nat → Bool) : Nat → Int32 := gq_val σ N h0 L bc ch s0 so
theorem gq_val_c {s1 s2 : Nat → Int32} (h : ∀ c, c < 10 → s1 c = s2 c) {σ : Nat → Nat → Int32} {N h0 L bc : Nat} {ch : Int32} {so : Nat → Bool} (hn : ∀ m, m < N → 0 ≤ σ 2 m ∧ σ 2 m ≤ 9) : gq_val σ N h0 L bc ch s1 so = gq_val σ N h0 L bc ch s2 so := by
  funext p
  exact gq_cm_c h hn L
theorem c_best (pn : Bool) (hn : gq_now I W N h0 L bc) : gw_E V 76 (0, [(0, .ref 3), (1, .int (gz_b pn))], [], gS n I J, 0, 0) (fun v w' => ∃ I2 p, w' = gS n I2 J ∧ gq_qf I I2 ∧ gq_bst (gq_val (gz_S I) N h0 L bc (I 12 1) (I 13) (fun _ => true)) h0 L p ∧ v = some (.int (if pn then gq_val (gz_S I) N h0 L bc (I 12 1) (I 13) (fun _ => true) p else Int32.ofNat p))) := by
  obtain ⟨hok, hh, hW, hbc, hb9, h78, h79, h69⟩ := hn
  refine gs_aload_n (pc := 0) (gd gk_76 0 rfl) rfl ?_
  refine gs_getR (r := 57) (pc := 1) (gd gk_76 1 rfl) rfl rfl rfl (by decide) ?_
  refine gs_aload_n (pc := 4) (gd gk_76 2 rfl) rfl ?_
  refine gs_getR (r := 12) (pc := 5) (gd gk_76 3 rfl) rfl rfl rfl (by decide) ?_
  refine gs_aload_n (pc := 8) (gd gk_76 4 rfl) rfl ?_
  refine gs_getR (r := 6) (pc := 9) (gd gk_76 5 rfl) rfl rfl rfl (by decide) ?_
  refine gs_getI (pc := 12) (gd gk_76 6 rfl) rfl rfl ?_
  refine gs_as (Int32.ofNat bc) (hbc) ?_
  refine gs_callV (as := [.ref (12), .int (Int32.ofNat bc)]) (pc := 15) (gd gk_76 7 rfl) (by decide) rfl (by decide) rfl rfl (Nat.le_of_ble_eq_true rfl) gq_76_50 (Nat.le_of_ble_eq_true rfl) (c_start_now bc h0 L hok hh hW hb9 h78 h79 h69) (fun r_15 w_15 q_15 => ?_)
  obtain ⟨rfl, I_s, rfl, s1, s2, s3, s4⟩ := q_15
  refine gs_aload_n (pc := 18) (gd gk_76 8 rfl) rfl ?_
  refine gs_getR (r := 81) (pc := 19) (gd gk_76 9 rfl) rfl rfl rfl (by decide) ?_
  refine gs_callV (as := []) (pc := 22) (gd gk_76 10 rfl) (by decide) rfl (by decide) rfl rfl (Nat.le_of_ble_eq_true rfl) gq_76_5 (Nat.le_of_ble_eq_true rfl) (c_findBest s2) (fun r_22 w_22 q_22 => ?_)
  obtain ⟨rfl, I_t, p, rfl, t1, t2, t3, t4⟩ := q_22
  rw [gq_qf_S (gq_qf_s s1), s3, gq_val_c s4 (gq_ok_n hok)] at t3 t4
  refine gs_iload_n (pc := 25) (gd gk_76 11 rfl) rfl ?_
  refine gs_if_eq (pc := 26) (gd gk_76 12 rfl) (fun c26 => ?_) (fun c26 => ?_)
  · refine gs_aload_n (pc := 39) (gd gk_76 17 rfl) rfl ?_
    refine gs_getR (r := 81) (pc := 40) (gd gk_76 18 rfl) rfl rfl rfl (by decide) ?_
    refine gs_getI (pc := 43) (gd gk_76 19 rfl) rfl rfl ?_
    -- end 1: ireturn (I_t 81 1), pc 46, locals [(0, .ref (3)), (1, .int (gz_b pn))]
    exact gs_iret (pc := 46) (gd gk_76 20 rfl) rfl (rfl) (Nat.zero_le _) (Nat.zero_le _) (⟨I_t, p, rfl, gq_qf_tr (gq_qf_s s1) t1, t4, by rw [t2, gz_b_eq.mp c26]; rfl⟩)
  · refine gs_aload_n (pc := 29) (gd gk_76 13 rfl) rfl ?_
    refine gs_getR (r := 81) (pc := 30) (gd gk_76 14 rfl) rfl rfl rfl (by decide) ?_
    refine gs_getI (pc := 33) (gd gk_76 15 rfl) rfl rfl ?_
    refine gs_goto (pc := 36) (gd gk_76 16 rfl) ?_
    -- end 2: ireturn (I_t 81 2), pc 46, locals [(0, .ref (3)), (1, .int (gz_b pn))]
    exact gs_iret (pc := 46) (gd gk_76 20 rfl) rfl (rfl) (Nat.zero_le _) (Nat.zero_le _) (⟨I_t, p, rfl, gq_qf_tr (gq_qf_s s1) t1, t4, by rw [t3, gz_b_ne.mp c26]; rfl⟩)
end
