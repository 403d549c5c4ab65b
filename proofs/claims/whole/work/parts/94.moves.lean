/-! ===== what changes the state, in pairs ===== -/
theorem gv_la {I : Nat → Nat → Int32} {l : Nat} (h : gv_tx I l) : ∀ p, gz_la (I 5) l p = gz_la (I 134) l p := fun p => by
  unfold gz_la
  by_cases e : p < l
  · rw [if_pos e, if_pos e, h.2.2.2 p e]
  · rw [if_neg e, if_neg e]
theorem gz_fi_c {t u : Nat → Int32} {l W : Nat} (h : ∀ p, gz_la t l p = gz_la u l p) (j : Nat) : gz_fi t l W j = gz_fi u l W j := by
  unfold gz_fi gz_fh gz_fn
  rw [h j]
theorem gz_wT_c {t u : Nat → Int32} {l W : Nat} (h : ∀ p, gz_la t l p = gz_la u l p) (hT : gz_wT t l W) : gz_wT u l W := ⟨hT.1, fun j hj => by rw [← h]; exact hT.2.1 j hj, by rw [← h]; exact hT.2.2⟩
theorem gz_fp_one {t u : Nat → Int32} {l W : Nat} {y z : Int32} (h : ∀ p, gz_la t l p = gz_la u l p) (h1 : gz_fp t l W y) (h2 : gz_fp u l W z) : y = z := by
  rcases h1 with ⟨p, a1, a2, a3, rfl⟩ | ⟨a1, rfl⟩ <;> rcases h2 with ⟨q, b1, b2, b3, rfl⟩ | ⟨b1, rfl⟩
  · rcases Nat.lt_trichotomy p q with e | e | e
    · have := b3 p e; rw [← gz_fi_c h, a2] at this; cases this
    · rw [e]
    · have := a3 q e; rw [gz_fi_c h, b2] at this; cases this
  · have := b1 p a1; rw [← gz_fi_c h, a2] at this; cases this
  · have := a1 q b1; rw [gz_fi_c h, b2] at this; cases this
  · rfl
/-- an act is remembered by both -/
theorem gv_ac_push {I I2 : Nat → Nat → Int32} {W nx sz h0 : Nat} (h : gv_ac I W nx sz) (n1 : ∀ c, c < 10 → I 13 c = I 133 c) (n2 : I 12 1 = I 133 10) (n3 : I 12 2 = I 133 11) (n4 : I 12 3 = Int32.ofNat h0) (n5 : I 133 12 = Int32.ofNat h0) (hW : h0 ≤ W)
    (c1 : gz_mm I2 (18 + 2 * nx) I 12) (c2 : I2 16 1 = Int32.ofNat ((nx + 1) % 14)) (c3 : I2 16 2 = Int32.ofNat (min (sz + 1) 14)) (c4 : ∀ p, 18 ≤ p → p ≤ 45 → p ≠ 18 + 2 * nx → p ≠ 18 + 2 * nx + 1 → I2 p = I p)
    (m1 : ∀ c, c < 13 → I2 136 (13 * nx + c) = I 133 c) (m2 : ∀ q, ¬ (13 * nx ≤ q ∧ q < 13 * nx + 13) → I2 136 q = I 136 q) (m3 : I2 126 20 = Int32.ofNat ((nx + 1) % 14)) (m4 : I2 126 19 = Int32.ofNat (min (sz + 1) 14)) : gv_ac I2 W ((nx + 1) % 14) (min (sz + 1) 14) := by
  obtain ⟨a1, a2, a3, a4, a5, a6, a7⟩ := h
  refine ⟨c2, m3, Nat.mod_lt _ (by omega), c3, m4, Nat.min_le_right _ _, fun j hj => ?_⟩
  by_cases e : j = 0
  · subst e
    rw [show ((nx + 1) % 14 + 13 - 0) % 14 = nx by omega]
    exact ⟨fun c hc => by rw [c1.1 c hc, m1 c (by omega)]; exact n1 c hc, by rw [c1.2.1, m1 10 (by omega)]; exact n2, by rw [c1.2.2.1, m1 11 (by omega)]; exact n3, by rw [c1.2.2.2, m1 12 (by omega), n4, n5], h0, by rw [c1.2.2.2]; exact n4, hW⟩
  · have hj2 : j - 1 < sz ∧ j < 14 := by omega
    have hk : ((nx + 1) % 14 + 13 - j) % 14 = (nx + 13 - (j - 1)) % 14 := by omega
    have hne : (nx + 13 - (j - 1)) % 14 ≠ nx := by omega
    have hlt : (nx + 13 - (j - 1)) % 14 < 14 := Nat.mod_lt _ (by omega)
    rw [hk]
    generalize hg : (nx + 13 - (j - 1)) % 14 = k at hne hlt
    have := a7 (j - 1) hj2.1
    rw [hg] at this
    exact gv_me_o this (c4 _ (by omega) (by omega) (by omega) (by omega)) (c4 _ (by omega) (by omega) (by omega) (by omega)) (fun q q1 q2 => m2 q (by omega))
section
variable {V : gw_V} {n : Nat} {I : Nat → Nat → Int32} {J : Nat → Nat → Int64}
theorem p_write (x : Int32) (h : gv_Inv I J) : gw_E V 64 (0, [(0, .ref 3), (1, .int x)], [], gS n I J, 0, 0) (gv_Qi V n (I 0) 110 [.int x]) := by
  obtain ⟨W, N, h0, L, bc, l, nx, sz, ssz, no, ho, hd, kb, h1, h2, h3, h4, h5, h6, hJ⟩ := id h
  refine gs_mono ?_ (c_write x h2.1 h2.2.2.1)
  rintro v w ⟨I1, rfl, rfl, e1⟩
  by_cases r : gz_rg x 0 255 = true ∧ l < 48
  · rw [if_pos r.1, if_pos r.2] at e1
    have o1 : ∀ p, p ≠ 4 → p ≠ 5 → I1 p = I p := fun p q1 q2 => by rw [e1, gw_u_o q1, gw_u_o q2]
    refine ⟨_, I1, J, rfl, rfl, o1 0 (by omega) (by omega), gs_mono ?_ (m_write (l := l) x (by rw [o1 126 (by omega) (by omega)]; exact h2.2.1) h2.2.2.1)⟩
    rintro v2 w2 ⟨I2, rfl, rfl, e2⟩
    rw [if_pos r.1, if_pos r.2] at e2
    have o2 : ∀ p, p ≠ 126 → p ≠ 134 → I2 p = I1 p := fun p q1 q2 => by rw [e2, gw_u_o q1, gw_u_o q2]
    have o : ∀ p, p ≠ 4 → p ≠ 5 → p ≠ 126 → p ≠ 134 → I2 p = I p := fun p q1 q2 q3 q4 => (o2 p q3 q4).trans (o1 p q1 q2)
    have o6 : ∀ q, q ≠ 15 → I2 126 q = I 126 q := fun q hq => by rw [e2, gw_u_s]; unfold upd; rw [if_neg hq, gw_u_o (by omega), o1 126 (by omega) (by omega)]
    refine ⟨rfl, I2, J, rfl, o 0 (by omega) (by omega) (by omega) (by omega), W, N, h0, L, bc, l + 1, nx, sz, ssz, no, ho, hd, kb, gv_st_o h1 (fun p _ _ => o p (by omega) (by omega) (by omega) (by omega)) (by rw [o 78 (by omega) (by omega) (by omega) (by omega)]) (by rw [o 79 (by omega) (by omega) (by omega) (by omega)]) (o 69 (by omega) (by omega) (by omega) (by omega)) (fun q _ => o6 q (by omega)) (o 127 (by omega) (by omega) (by omega) (by omega)) (o 129 (by omega) (by omega) (by omega) (by omega)) (fun q _ => by rw [o 133 (by omega) (by omega) (by omega) (by omega)]), ⟨?_, ?_, by omega, fun j hj => ?_⟩, gv_ac_o h3 (fun p _ _ => o p (by omega) (by omega) (by omega) (by omega)) (o6 19 (by omega)) (o6 20 (by omega)) (o 136 (by omega) (by omega) (by omega) (by omega)), gv_sl_o h4 (fun p _ _ => o p (by omega) (by omega) (by omega) (by omega)) (o 143 (by omega) (by omega) (by omega) (by omega)) (o 144 (by omega) (by omega) (by omega) (by omega)), gv_si_o h5 (by rw [o 53 (by omega) (by omega) (by omega) (by omega)]) (fun p _ _ => o p (by omega) (by omega) (by omega) (by omega)) (o6 25 (by omega)) (fun p _ _ => o p (by omega) (by omega) (by omega) (by omega)), gv_tb_o h6 (o 1 (by omega) (by omega) (by omega) (by omega)) (o 2 (by omega) (by omega) (by omega) (by omega)) (o 69 (by omega) (by omega) (by omega) (by omega)), hJ⟩
    · rw [o2 4 (by omega) (by omega), e1, gw_u_s]; unfold upd; rw [if_pos rfl]
    · rw [e2, gw_u_s]; unfold upd; rw [if_pos rfl]
    · have w5 : I2 5 = upd (I 5) l x := by rw [o2 5 (by omega) (by omega), e1, gw_u_o (by omega), gw_u_s]
      have w134 : I2 134 = upd (I 134) l x := by rw [e2, gw_u_o (by omega), gw_u_s, o1 134 (by omega) (by omega)]
      rw [w5, w134]
      unfold upd
      by_cases e : j = l
      · rw [if_pos e, if_pos e]
      · rw [if_neg e, if_neg e]; exact h2.2.2.2 j (by omega)
  · have e1 : I1 = I := by
      rw [e1]
      by_cases q : gz_rg x 0 255 = true
      · rw [if_pos q, if_neg (fun z => r ⟨q, z⟩)]
      · rw [if_neg q]
    subst e1
    refine ⟨_, I1, J, rfl, rfl, rfl, gs_mono ?_ (m_write (l := l) x h2.2.1 h2.2.2.1)⟩
    rintro v2 w2 ⟨I2, rfl, rfl, e2⟩
    have e2 : I2 = I1 := by
      rw [e2]
      by_cases q : gz_rg x 0 255 = true
      · rw [if_pos q, if_neg (fun z => r ⟨q, z⟩)]
      · rw [if_neg q]
    subst e2
    exact ⟨rfl, I2, J, rfl, rfl, h⟩
theorem p_wipe (h : gv_Inv I J) : gw_E V 65 (0, [(0, .ref 3)], [], gS n I J, 0, 0) (gv_Qi V n (I 0) 111 []) := by
  obtain ⟨W, N, h0, L, bc, l, nx, sz, ssz, no, ho, hd, kb, h1, h2, h3, h4, h5, h6, hJ⟩ := id h
  refine gs_mono ?_ c_wipe
  rintro v w ⟨I1, rfl, rfl, e1⟩
  have o1 : ∀ p, p ≠ 4 → I1 p = I p := fun p q1 => by rw [e1, gw_u_o q1]
  refine ⟨_, I1, J, rfl, rfl, o1 0 (by omega), gs_mono ?_ m_wipe⟩
  rintro v2 w2 ⟨I2, rfl, rfl, e2⟩
  have o : ∀ p, p ≠ 4 → p ≠ 126 → I2 p = I p := fun p q1 q2 => by rw [e2, gw_u_o q2, o1 p q1]
  have o6 : ∀ q, q ≠ 15 → I2 126 q = I 126 q := fun q hq => by rw [e2, gw_u_s]; unfold upd; rw [if_neg hq, o1 126 (by omega)]
  refine ⟨by rw [o1 126 (by omega), h2.2.1, h2.1], I2, J, rfl, o 0 (by omega) (by omega), W, N, h0, L, bc, 0, nx, sz, ssz, no, ho, hd, kb, gv_st_o h1 (fun p _ _ => o p (by omega) (by omega)) (by rw [o 78 (by omega) (by omega)]) (by rw [o 79 (by omega) (by omega)]) (o 69 (by omega) (by omega)) (fun q _ => o6 q (by omega)) (o 127 (by omega) (by omega)) (o 129 (by omega) (by omega)) (fun q _ => by rw [o 133 (by omega) (by omega)]), ⟨?_, ?_, by omega, fun j hj => absurd hj (Nat.not_lt_zero _)⟩, gv_ac_o h3 (fun p _ _ => o p (by omega) (by omega)) (o6 19 (by omega)) (o6 20 (by omega)) (o 136 (by omega) (by omega)), gv_sl_o h4 (fun p _ _ => o p (by omega) (by omega)) (o 143 (by omega) (by omega)) (o 144 (by omega) (by omega)), gv_si_o h5 (by rw [o 53 (by omega) (by omega)]) (fun p _ _ => o p (by omega) (by omega)) (o6 25 (by omega)) (fun p _ _ => o p (by omega) (by omega)), gv_tb_o h6 (o 1 (by omega) (by omega)) (o 2 (by omega) (by omega)) (o 69 (by omega) (by omega)), hJ⟩
  · rw [e2, gw_u_o (by omega), e1, gw_u_s]; unfold upd; rw [if_pos rfl]; rfl
  · rw [e2, gw_u_s]; unfold upd; rw [if_pos rfl]; rfl
theorem p_fault (h : gv_Inv I J) : gw_E V 66 (0, [(0, .ref 3)], [], gS n I J, 0, 0) (gv_Qi V n (I 0) 116 []) := by
  obtain ⟨W, N, h0, L, bc, l, nx, sz, ssz, no, ho, hd, kb, h1, h2, h3, h4, h5, h6, hJ⟩ := id h
  refine gs_mono ?_ (c_fault h2.1 h2.2.2.1)
  rintro v w ⟨W1, y, hT, hF, rfl, rfl⟩
  refine ⟨_, I, J, rfl, rfl, rfl, gs_mono ?_ (m_fault l W1 (gz_wT_c (gv_la h2) hT) h2.2.1 h2.2.2.1)⟩
  rintro v2 w2 ⟨y2, hF2, rfl, I2, rfl, q2⟩
  exact ⟨by rw [gz_fp_one (gv_la h2) hF hF2], I2, J, rfl, gm_qf_0 q2, gv_Inv_fr h (gv_fr_m q2) hJ⟩
theorem p_unsee (h : gv_Inv I J) : gw_E V 83 (0, [(0, .ref 3)], [], gS n I J, 0, 0) (gv_Qi V n (I 0) 148 []) := by
  obtain ⟨W, N, h0, L, bc, l, nx, sz, ssz, no, ho, hd, kb, h1, h2, h3, h4, h5, h6, hJ⟩ := id h
  refine gs_mono ?_ c_unsee
  rintro v w ⟨I1, rfl, rfl, e1⟩
  have o1 : ∀ p, p ≠ 53 → I1 p = I p := fun p q1 => by rw [e1, gw_u_o q1]
  refine ⟨_, I1, J, rfl, rfl, o1 0 (by omega), gs_mono ?_ m_unsee⟩
  rintro v2 w2 ⟨I2, rfl, rfl, e2⟩
  have o : ∀ p, p ≠ 53 → p ≠ 126 → I2 p = I p := fun p q1 q2 => by rw [e2, gw_u_o q2, o1 p q1]
  have o6 : ∀ q, q ≠ 25 → I2 126 q = I 126 q := fun q hq => by rw [e2, gw_u_s]; unfold upd; rw [if_neg hq, o1 126 (by omega)]
  refine ⟨by rw [o1 126 (by omega), h5.2.1, h5.1.1], I2, J, rfl, o 0 (by omega) (by omega), W, N, h0, L, bc, l, nx, sz, 0, no, ho, hd, kb, gv_st_o h1 (fun p _ _ => o p (by omega) (by omega)) (by rw [o 78 (by omega) (by omega)]) (by rw [o 79 (by omega) (by omega)]) (o 69 (by omega) (by omega)) (fun q _ => o6 q (by omega)) (o 127 (by omega) (by omega)) (o 129 (by omega) (by omega)) (fun q _ => by rw [o 133 (by omega) (by omega)]), gv_tx_o h2 (by rw [o 4 (by omega) (by omega)]) (o 5 (by omega) (by omega)) (o6 15 (by omega)) (o 134 (by omega) (by omega)), gv_ac_o h3 (fun p _ _ => o p (by omega) (by omega)) (o6 19 (by omega)) (o6 20 (by omega)) (o 136 (by omega) (by omega)), gv_sl_o h4 (fun p _ _ => o p (by omega) (by omega)) (o 143 (by omega) (by omega)) (o 144 (by omega) (by omega)), ⟨⟨?_, by omega, fun k hk => absurd hk (Nat.not_lt_zero _)⟩, ?_, by omega, fun k hk => absurd hk (Nat.not_lt_zero _)⟩, gv_tb_o h6 (o 1 (by omega) (by omega)) (o 2 (by omega) (by omega)) (o 69 (by omega) (by omega)), hJ⟩
  · rw [e2, gw_u_o (by omega), e1, gw_u_s]; unfold upd; rw [if_pos rfl]; rfl
  · rw [e2, gw_u_s]; unfold upd; rw [if_pos rfl]; rfl
theorem p_seed (x : Int64) (h : gv_Inv I J) : gw_E V 88 (0, [(0, .ref 3), (1, .long x)], [], gS n I J, 0, 0) (gv_Ql V n (I 0) 158 [.long x]) := by
  obtain ⟨W, N, h0, L, bc, l, nx, sz, ssz, no, ho, hd, kb, h1, h2, h3, h4, h5, h6, hJ⟩ := id h
  refine gs_mono ?_ (c_seed x)
  rintro v w ⟨rfl, rfl⟩
  refine ⟨_, I, _, rfl, rfl, rfl, gs_mono ?_ (m_seed x)⟩
  rintro v2 w2 ⟨rfl, rfl⟩
  refine ⟨?_, I, _, rfl, rfl, gv_Inv_fr h (gv_fr_rf I) ?_⟩
  · show some (Value.long (gw_uJ J 3 11 x 126 34)) = _
    unfold gw_uJ
    rw [if_neg (by omega), hJ]
  · unfold gw_uJ
    rw [if_neg (by omega), if_pos ⟨rfl, rfl⟩, if_pos ⟨rfl, rfl⟩]
theorem p_see (x y : Int32) (b : Bool) (h : gv_Inv I J) : gw_E V 82 (0, [(0, .ref 3), (1, .int x), (2, .int y), (3, .int (gz_b b))], [], gS n I J, 0, 0) (gv_Qi V n (I 0) 147 [.int x, .int y, .int (gz_b b)]) := by
  obtain ⟨W, N, h0, L, bc, l, nx, sz, ssz, no, ho, hd, kb, h1, h2, h3, h4, h5, h6, hJ⟩ := id h
  have hN : I 6 4 = Int32.ofNat N := h1.1.1.2.2.1
  have hNm : I 126 4 = Int32.ofNat N := h1.2.1.1.2.2.1
  have hN6 : N ≤ 6 := h1.1.1.2.2.2.1
  refine gs_mono ?_ (c_see x y b ssz h5.1.1 h5.1.2.1 hN)
  rintro v w ⟨I1, rfl, hv⟩
  have same : ∀ z, (∀ I9 : Nat → Nat → Int32, ∀ v9, (if gz_lt x N then (if gz_lt y 8 then (if ssz < 6 then v9 = some (Value.int (Int32.ofNat (ssz + 1))) ∧ I9 = gz_sg I 138 139 140 126 25 ssz x y b else v9 = some (.int (-4)) ∧ I9 = I) else v9 = some (.int (-2)) ∧ I9 = I) else v9 = some (.int (-1)) ∧ I9 = I) → v9 = some (.int z) ∧ I9 = I) → v = some (.int z) → I1 = I → gv_Qi V n (I 0) 147 [.int x, .int y, .int (gz_b b)] v (gS n I1 J) := by
    intro z hz hv9 hI9
    subst hv9 hI9
    refine ⟨_, I1, J, rfl, rfl, rfl, gs_mono ?_ (m_see x y b ssz h5.2.1 h5.2.2.1 hNm hN6)⟩
    rintro v2 w2 ⟨I2, rfl, hv2⟩
    obtain ⟨rfl, rfl⟩ := hz I2 v2 hv2
    exact ⟨rfl, I2, J, rfl, rfl, h⟩
  by_cases r1 : gz_lt x N = true
  · rw [if_pos r1] at hv
    by_cases r2 : gz_lt y 8 = true
    · rw [if_pos r2] at hv
      by_cases r3 : ssz < 6
      · rw [if_pos r3] at hv
        obtain ⟨rfl, e1⟩ := hv
        have o1 : ∀ p, ¬ (53 ≤ p ∧ p ≤ 56) → I1 p = I p := fun p q1 => by rw [e1]; unfold gz_sg; rw [gw_u_o (by omega), gw_u_o (by omega), gw_u_o (by omega), gw_u_o (by omega)]
        refine ⟨_, I1, J, rfl, rfl, o1 0 (by omega), gs_mono ?_ (m_see x y b ssz (by rw [o1 126 (by omega)]; exact h5.2.1) h5.2.2.1 (by rw [o1 126 (by omega)]; exact hNm) hN6)⟩
        rintro v2 w2 ⟨I2, rfl, hv2⟩
        rw [if_pos r1, if_pos r2, if_pos r3] at hv2
        obtain ⟨rfl, e2⟩ := hv2
        have o2 : ∀ p, ¬ (138 ≤ p ∧ p ≤ 140) → p ≠ 126 → I2 p = I1 p := fun p q1 q2 => by rw [e2]; unfold gz_sg; rw [gw_u_o (by omega), gw_u_o (by omega), gw_u_o (by omega), gw_u_o (by omega)]
        have o : ∀ p, ¬ (53 ≤ p ∧ p ≤ 56) → ¬ (138 ≤ p ∧ p ≤ 140) → p ≠ 126 → I2 p = I p := fun p q1 q2 q3 => (o2 p q2 q3).trans (o1 p q1)
        have o6 : ∀ q, q ≠ 25 → I2 126 q = I 126 q := fun q hq => by rw [e2]; unfold gz_sg; rw [gw_u_s]; unfold upd; rw [if_neg hq, gw_u_o (by omega), gw_u_o (by omega), gw_u_o (by omega), o1 126 (by omega)]
        obtain ⟨cx, hcx, rfl⟩ := gz_lt_nat r1 (by omega)
        obtain ⟨cy, hcy, rfl⟩ := gz_lt_nat r2 (by omega)
        have w54 : I2 54 = upd (I 54) ssz (Int32.ofNat cx) := by rw [o2 54 (by omega) (by omega), e1]; unfold gz_sg; rw [gw_u_o (by omega), gw_u_o (by omega), gw_u_o (by omega), gw_u_s]
        have w55 : I2 55 = upd (I 55) ssz (Int32.ofNat cy) := by rw [o2 55 (by omega) (by omega), e1]; unfold gz_sg; rw [gw_u_o (by omega), gw_u_o (by omega), gw_u_s, gw_u_o (by omega)]
        have w56 : I2 56 = upd (I 56) ssz (gz_b b) := by rw [o2 56 (by omega) (by omega), e1]; unfold gz_sg; rw [gw_u_o (by omega), gw_u_s, gw_u_o (by omega), gw_u_o (by omega)]
        have w53 : I2 53 3 = Int32.ofNat (ssz + 1) := by rw [o2 53 (by omega) (by omega), e1]; unfold gz_sg; rw [gw_u_s]; unfold upd; rw [if_pos rfl]
        have w138 : I2 138 = upd (I 138) ssz (Int32.ofNat cx) := by rw [e2]; unfold gz_sg; rw [gw_u_o (by omega), gw_u_o (by omega), gw_u_o (by omega), gw_u_s, o1 138 (by omega)]
        have w139 : I2 139 = upd (I 139) ssz (Int32.ofNat cy) := by rw [e2]; unfold gz_sg; rw [gw_u_o (by omega), gw_u_o (by omega), gw_u_s, gw_u_o (by omega), o1 139 (by omega)]
        have w140 : I2 140 = upd (I 140) ssz (gz_b b) := by rw [e2]; unfold gz_sg; rw [gw_u_o (by omega), gw_u_s, gw_u_o (by omega), gw_u_o (by omega), o1 140 (by omega)]
        have w25 : I2 126 25 = Int32.ofNat (ssz + 1) := by rw [e2]; unfold gz_sg; rw [gw_u_s]; unfold upd; rw [if_pos rfl]
        refine ⟨rfl, I2, J, rfl, o 0 (by omega) (by omega) (by omega), W, N, h0, L, bc, l, nx, sz, ssz + 1, fun k => if k = ssz then cx else no k, fun k => if k = ssz then cy else ho k, fun k => if k = ssz then b else hd k, kb, gv_st_o h1 (fun p _ _ => o p (by omega) (by omega) (by omega)) (by rw [o 78 (by omega) (by omega) (by omega)]) (by rw [o 79 (by omega) (by omega) (by omega)]) (o 69 (by omega) (by omega) (by omega)) (fun q _ => o6 q (by omega)) (o 127 (by omega) (by omega) (by omega)) (o 129 (by omega) (by omega) (by omega)) (fun q _ => by rw [o 133 (by omega) (by omega) (by omega)]), gv_tx_o h2 (by rw [o 4 (by omega) (by omega) (by omega)]) (o 5 (by omega) (by omega) (by omega)) (o6 15 (by omega)) (o 134 (by omega) (by omega) (by omega)), gv_ac_o h3 (fun p _ _ => o p (by omega) (by omega) (by omega)) (o6 19 (by omega)) (o6 20 (by omega)) (o 136 (by omega) (by omega) (by omega)), gv_sl_o h4 (fun p _ _ => o p (by omega) (by omega) (by omega)) (o 143 (by omega) (by omega) (by omega)) (o 144 (by omega) (by omega) (by omega)), ⟨⟨w53, by omega, fun k hk => ?_⟩, w25, by omega, fun k hk => ?_⟩, gv_tb_o h6 (o 1 (by omega) (by omega) (by omega)) (o 2 (by omega) (by omega) (by omega)) (o 69 (by omega) (by omega) (by omega)), hJ⟩
        · rw [w54, w55, w56]
          unfold upd
          by_cases e : k = ssz
          · simp only [e, if_true]
            exact ⟨trivial, by omega, trivial, hcy, trivial⟩
          · simp only [e, if_false]
            exact h5.1.2.2 k (by omega)
        · rw [w138, w139, w140]
          unfold upd
          by_cases e : k = ssz
          · simp only [e, if_true]
            exact ⟨trivial, by omega, trivial, hcy, trivial⟩
          · simp only [e, if_false]
            exact h5.2.2.2 k (by omega)
      · rw [if_neg r3] at hv
        exact same (-4) (fun I9 v9 h9 => by rw [if_pos r1, if_pos r2, if_neg r3] at h9; exact h9) hv.1 hv.2
    · rw [if_neg r2] at hv
      exact same (-2) (fun I9 v9 h9 => by rw [if_pos r1, if_neg r2] at h9; exact h9) hv.1 hv.2
  · rw [if_neg r1] at hv
    exact same (-1) (fun I9 v9 h9 => by rw [if_neg r1] at h9; exact h9) hv.1 hv.2
end
