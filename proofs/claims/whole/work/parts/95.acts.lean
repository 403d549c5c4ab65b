/-! ===== acts, slots, the street: in pairs ===== -/
theorem av_hc {σ τ : Nat → Nat → Int32} {W N h0 bc : Nat} {s t : Nat → Int32} {ch : Int32} (hA : gv_ag σ τ W N s t) (h : h0 < W) (bk : Bool) : gq_hc σ (gq_nx σ h0 bc bk ch s) bk (decide (σ 1 h0 = 1)) (fun _ => true) N = gq_hc τ (gq_nx τ h0 bc bk ch t) bk (decide (τ 1 h0 = 1)) (fun _ => true) N := by
  rw [gq_hc_c (av_nx hA h bk) (gq_ok_n hA.2.2.2.1), gq_hc_k hA.1 _ _ _ (fun _ _ => rfl) (Nat.le_refl N), hA.2.1 h0 h]
theorem av_wh {σ τ : Nat → Nat → Int32} {W N h0 bc : Nat} {s t : Nat → Int32} {ch : Int32} (hA : gv_ag σ τ W N s t) (h : h0 < W) (bk : Bool) : gq_who σ (gq_nx σ h0 bc bk ch s) N = gq_who τ (gq_nx τ h0 bc bk ch t) N := by
  rw [gq_who_c (av_nx hA h bk) (gq_ok_n hA.2.2.2.1), gq_who_k hA.1 _ (Nat.le_refl N)]
section
variable {V : gw_V} {n : Nat} {I : Nat → Nat → Int32} {J : Nat → Nat → Int64}
theorem p_hour (bk : Bool) (h : gv_Inv I J) : gw_E V 72 (0, [(0, .ref 3), (1, .int (gz_b bk))], [], gS n I J, 0, 0) (gv_Qi V n (I 0) 131 [.int (gz_b bk)]) := by
  obtain ⟨W, N, h0, L, bc, l, nx, sz, ssz, no, ho, hd, kb, ⟨g1, g2, hA, e1, e2⟩, h2, h3, h4, h5, h6, hJ⟩ := id h
  have hL : h0 + L = W := g1.2.2.1
  have hW8 : W ≤ 8 := g1.1.2.1
  refine gs_mono ?_ (c_hour bk nx sz h3.1 h3.2.2.1 h3.2.2.2.1 h3.2.2.2.2.2.1 g1)
  rintro v w ⟨I1, y, rfl, rfl, hv⟩
  by_cases hw : h0 = W
  · rw [if_pos hw] at hv
    obtain ⟨rfl, rfl⟩ := hv
    refine ⟨_, I1, J, rfl, rfl, rfl, gs_mono ?_ (m_hour bk nx sz h3.2.1 h3.2.2.1 h3.2.2.2.2.1 h3.2.2.2.2.2.1 g2)⟩
    rintro v2 w2 ⟨I2, y2, rfl, rfl, hv2⟩
    rw [if_pos hw] at hv2
    obtain ⟨rfl, rfl⟩ := hv2
    exact ⟨rfl, I2, J, rfl, rfl, h⟩
  · rw [if_neg hw] at hv
    obtain ⟨rfl, c1, c2, c3, c4, c5, c6, c7, c8, c9⟩ := hv
    have hnx := h3.2.2.1
    have om : ∀ p, 126 ≤ p → I1 p = I p := fun p hp => c9 p (by omega) (by omega) (by omega) (by omega) (by omega) (by omega) (by omega) (by omega)
    have hM1 : gz_M I1 = gz_M I := gz_M_eq (fun k _ => by rw [om 126 (by omega)]) (om 127 (by omega)) (om 129 (by omega))
    have g21 : gm_now I1 W N h0 L bc := ⟨by rw [hM1]; exact g2.1, by rw [om 133 (by omega)]; exact g2.2.1, hL, by rw [om 126 (by omega)]; exact g2.2.2.2.1, g2.2.2.2.2⟩
    have k0 : I1 0 = I 0 := c9 0 (by omega) (by omega) (by omega) (by omega) (by omega) (by omega) (by omega) (by omega)
    refine ⟨_, I1, J, rfl, rfl, k0, gs_mono ?_ (m_hour bk nx sz (by rw [om 126 (by omega)]; exact h3.2.1) h3.2.2.1 (by rw [om 126 (by omega)]; exact h3.2.2.2.2.1) h3.2.2.2.2.2.1 g21)⟩
    rintro v2 w2 ⟨I2, y2, rfl, rfl, hv2⟩
    rw [if_neg hw] at hv2
    obtain ⟨rfl, m1, m2, m3, m4, m5, m6, m7⟩ := hv2
    have e133 := om 133 (by omega)
    have oc : ∀ p, p < 126 → I2 p = I1 p := fun p hp => m7 p (by omega) (by omega) (by omega) (by omega) (by omega)
    have o : ∀ p, p < 57 → p ≠ 18 + 2 * nx → p ≠ 18 + 2 * nx + 1 → p ≠ 16 → p ≠ 12 → p ≠ 13 → p ≠ 14 → p ≠ 15 → I2 p = I p := fun p q0 q1 q2 q3 q4 q5 q6 q7 => (oc p (by omega)).trans (c9 p q1 q2 q3 q4 q5 (by omega) q6 q7)
    have ox : ∀ p, 126 < p → p ≠ 128 → p ≠ 133 → p ≠ 135 → p ≠ 136 → I2 p = I p := fun p q0 q1 q2 q3 q4 => (m7 p (by omega) q1 q2 q3 q4).trans (om p (by omega))
    have o6 : ∀ q, q ≠ 19 → q ≠ 20 → I2 126 q = I 126 q := fun q q1 q2 => by rw [m6 q q1 q2, om 126 (by omega)]
    have hS2 : gz_S I2 = gz_S I := gz_S_eq (fun p q1 q2 => o p (by omega) (by omega) (by omega) (by omega) (by omega) (by omega) (by omega) (by omega))
    have hM2 : gz_M I2 = gz_M I := gz_M_eq (fun k _ => o6 k (by omega) (by omega)) (ox 127 (by omega) (by omega) (by omega) (by omega) (by omega)) (ox 129 (by omega) (by omega) (by omega) (by omega) (by omega))
    rw [hM1, e133] at m2 m4
    rw [e133] at m3
    have hlt : h0 < W := by omega
    refine ⟨?_, I2, J, rfl, by rw [oc 0 (by omega)]; exact k0, W, N, h0 + 1, L - 1, bc, l, (nx + 1) % 14, min (sz + 1) 14, ssz, no, ho, hd, kb, ⟨⟨by rw [hS2]; exact g1.1, by rw [oc 12 (by omega)]; exact c5, by omega, by rw [o 6 (by omega) (by omega) (by omega) (by omega) (by omega) (by omega) (by omega) (by omega)]; exact g1.2.2.2.1, g1.2.2.2.2.1, by rw [oc 78 (by omega), c6]; exact g1.2.2.2.2.2.1, by rw [oc 79 (by omega), c7]; exact g1.2.2.2.2.2.2.1, by rw [oc 69 (by omega), c8]; exact g1.2.2.2.2.2.2.2⟩, ⟨by rw [hM2]; exact g2.1, m5, by omega, by rw [o6 0 (by omega) (by omega)]; exact g2.2.2.2.1, g2.2.2.2.2⟩, ⟨by rw [hS2, hM2]; exact hA.1, by rw [hS2, hM2]; exact hA.2.1, fun c hc => by rw [oc 13 (by omega), c2 c hc, m2 c hc, ← e1]; exact av_nx hA hlt bk c hc, by rw [hS2]; exact g1.1, by rw [hM2]; exact g2.1⟩, by rw [oc 12 (by omega), c3, m3]; exact e1, by rw [oc 12 (by omega), c4, m4, e2, ← e1, av_hc hA hlt bk]⟩, gv_tx_o h2 (by rw [o 4 (by omega) (by omega) (by omega) (by omega) (by omega) (by omega) (by omega) (by omega)]) (o 5 (by omega) (by omega) (by omega) (by omega) (by omega) (by omega) (by omega) (by omega)) (o6 15 (by omega) (by omega)) (ox 134 (by omega) (by omega) (by omega) (by omega) (by omega)), ?_, gv_sl_o h4 (fun p q1 q2 => o p (by omega) (by omega) (by omega) (by omega) (by omega) (by omega) (by omega) (by omega)) (ox 143 (by omega) (by omega) (by omega) (by omega) (by omega)) (ox 144 (by omega) (by omega) (by omega) (by omega) (by omega)), gv_si_o h5 (by rw [o 53 (by omega) (by omega) (by omega) (by omega) (by omega) (by omega) (by omega) (by omega)]) (fun p q1 q2 => o p (by omega) (by omega) (by omega) (by omega) (by omega) (by omega) (by omega) (by omega)) (o6 25 (by omega) (by omega)) (fun p q1 q2 => ox p (by omega) (by omega) (by omega) (by omega) (by omega)), gv_tb_o h6 (o 1 (by omega) (by omega) (by omega) (by omega) (by omega) (by omega) (by omega) (by omega)) (o 2 (by omega) (by omega) (by omega) (by omega) (by omega) (by omega) (by omega) (by omega)) (by rw [oc 69 (by omega)]; exact c8), hJ⟩
    · rw [hM1, e133, ← e1, av_wh hA hlt bk]
    · refine gv_ac_push h3 hA.2.2.1 e1 e2 g1.2.1 g2.2.1 (by omega) ?_ (by rw [oc 16 (by omega)]; exact c1.2.1) (by rw [oc 16 (by omega)]; exact c1.2.2) (fun p q1 q2 q3 q4 => o p (by omega) q3 q4 (by omega) (by omega) (by omega) (by omega) (by omega)) (fun c hc => by rw [m1.1 c hc, e133]) (fun q hq => by rw [m1.2.1 q hq, om 136 (by omega)]) m1.2.2.1 m1.2.2.2
      exact ⟨fun c hc => by rw [oc _ (by omega)]; exact c1.1.1 c hc, by rw [oc _ (by omega)]; exact c1.1.2.1, by rw [oc _ (by omega)]; exact c1.1.2.2.1, by rw [oc _ (by omega)]; exact c1.1.2.2.2⟩
theorem p_chimney (x : Int32) (h : gv_Inv I J) : gw_E V 73 (0, [(0, .ref 3), (1, .int x)], [], gS n I J, 0, 0) (gv_Qi V n (I 0) 132 [.int x]) := by
  obtain ⟨W, N, h0, L, bc, l, nx, sz, ssz, no, ho, hd, kb, ⟨g1, g2, hA, e1, e2⟩, h2, h3, h4, h5, h6, hJ⟩ := id h
  have hL : h0 + L = W := g1.2.2.1
  have hW8 : W ≤ 8 := g1.1.2.1
  refine gs_mono ?_ (c_chimney x nx sz h3.1 h3.2.2.1 h3.2.2.2.1 h3.2.2.2.2.2.1 g1.1.1 g1.2.1 (by omega) hW8)
  rintro v w ⟨I1, y, rfl, rfl, hv⟩
  by_cases r : gz_rg x 0 9 = true
  · rw [if_pos r] at hv
    by_cases hw : h0 = W
    · rw [if_pos hw] at hv
      obtain ⟨rfl, rfl⟩ := hv
      refine ⟨_, I1, J, rfl, rfl, rfl, gs_mono ?_ (m_chimney x nx sz h3.2.1 h3.2.2.1 h3.2.2.2.2.1 h3.2.2.2.2.2.1 g2.1.1 g2.2.1 (by omega) hW8)⟩
      rintro v2 w2 ⟨I2, y2, rfl, rfl, hv2⟩
      rw [if_pos r, if_pos hw] at hv2
      obtain ⟨rfl, rfl⟩ := hv2
      exact ⟨rfl, I2, J, rfl, rfl, h⟩
    · rw [if_neg hw] at hv
      obtain ⟨rfl, c1, c2, c3, c4⟩ := hv
      have hnx := h3.2.2.1
      have om : ∀ p, 46 ≤ p → I1 p = I p := fun p hp => c4 p (by omega) (by omega) (by omega) (by omega)
      have k0 : I1 0 = I 0 := c4 0 (by omega) (by omega) (by omega) (by omega)
      refine ⟨_, I1, J, rfl, rfl, k0, gs_mono ?_ (m_chimney (h0 := h0) (W := W) x nx sz (by rw [om 126 (by omega)]; exact h3.2.1) h3.2.2.1 (by rw [om 126 (by omega)]; exact h3.2.2.2.2.1) h3.2.2.2.2.2.1 (by rw [om 126 (by omega)]; exact g2.1.1) (by rw [om 133 (by omega)]; exact g2.2.1) (by omega) hW8)⟩
      rintro v2 w2 ⟨I2, y2, rfl, rfl, hv2⟩
      rw [if_pos r, if_neg hw] at hv2
      obtain ⟨rfl, m1, m2, m3, m4, m5⟩ := hv2
      have e133 := om 133 (by omega)
      rw [e133] at m2
      have oc : ∀ p, p < 126 → I2 p = I1 p := fun p hp => m5 p (by omega) (by omega) (by omega)
      have o : ∀ p, p < 126 → p ≠ 18 + 2 * nx → p ≠ 18 + 2 * nx + 1 → p ≠ 16 → p ≠ 12 → I2 p = I p := fun p q0 q1 q2 q3 q4 => (oc p q0).trans (c4 p q1 q2 q3 q4)
      have ox : ∀ p, 126 < p → p ≠ 133 → p ≠ 136 → I2 p = I p := fun p q0 q1 q2 => (m5 p (by omega) q2 q1).trans (om p (by omega))
      have o6 : ∀ q, q ≠ 19 → q ≠ 20 → I2 126 q = I 126 q := fun q q1 q2 => by rw [m4 q q1 q2, om 126 (by omega)]
      have o33 : ∀ q, q ≠ 10 → I2 133 q = I 133 q := fun q hq => by rw [m3 q hq, e133]
      have o12 : ∀ q, q ≠ 1 → I2 12 q = I 12 q := fun q hq => by rw [oc 12 (by omega), c3 q hq]
      have hS2 : gz_S I2 = gz_S I := gz_S_eq (fun p q1 q2 => o p (by omega) (by omega) (by omega) (by omega) (by omega))
      have hM2 : gz_M I2 = gz_M I := gz_M_eq (fun k _ => o6 k (by omega) (by omega)) (ox 127 (by omega) (by omega) (by omega)) (ox 129 (by omega) (by omega) (by omega))
      refine ⟨?_, I2, J, rfl, by rw [oc 0 (by omega)]; exact k0, W, N, h0, L, bc, l, (nx + 1) % 14, min (sz + 1) 14, ssz, no, ho, hd, kb, ⟨⟨by rw [hS2]; exact g1.1, by rw [o12 3 (by omega)]; exact g1.2.1, hL, by rw [o 6 (by omega) (by omega) (by omega) (by omega) (by omega)]; exact g1.2.2.2.1, g1.2.2.2.2.1, by rw [o 78 (by omega) (by omega) (by omega) (by omega) (by omega)]; exact g1.2.2.2.2.2.1, by rw [o 79 (by omega) (by omega) (by omega) (by omega) (by omega)]; exact g1.2.2.2.2.2.2.1, by rw [o 69 (by omega) (by omega) (by omega) (by omega) (by omega)]; exact g1.2.2.2.2.2.2.2⟩, ⟨by rw [hM2]; exact g2.1, by rw [o33 12 (by omega)]; exact g2.2.1, hL, by rw [o6 0 (by omega) (by omega)]; exact g2.2.2.2.1, g2.2.2.2.2⟩, ⟨by rw [hS2, hM2]; exact hA.1, by rw [hS2, hM2]; exact hA.2.1, fun c hc => by rw [o 13 (by omega) (by omega) (by omega) (by omega) (by omega), o33 c (by omega)]; exact hA.2.2.1 c hc, by rw [hS2]; exact g1.1, by rw [hM2]; exact g2.1⟩, by rw [oc 12 (by omega), c2, m2, e1], by rw [o12 2 (by omega), o33 11 (by omega)]; exact e2⟩, gv_tx_o h2 (by rw [o 4 (by omega) (by omega) (by omega) (by omega) (by omega)]) (o 5 (by omega) (by omega) (by omega) (by omega) (by omega)) (o6 15 (by omega) (by omega)) (ox 134 (by omega) (by omega) (by omega)), ?_, gv_sl_o h4 (fun p q1 q2 => o p (by omega) (by omega) (by omega) (by omega) (by omega)) (ox 143 (by omega) (by omega) (by omega)) (ox 144 (by omega) (by omega) (by omega)), gv_si_o h5 (by rw [o 53 (by omega) (by omega) (by omega) (by omega) (by omega)]) (fun p q1 q2 => o p (by omega) (by omega) (by omega) (by omega) (by omega)) (o6 25 (by omega) (by omega)) (fun p q1 q2 => ox p (by omega) (by omega) (by omega)), gv_tb_o h6 (o 1 (by omega) (by omega) (by omega) (by omega) (by omega)) (o 2 (by omega) (by omega) (by omega) (by omega) (by omega)) (o 69 (by omega) (by omega) (by omega) (by omega) (by omega)), hJ⟩
      · rw [e133, e1]
      · refine gv_ac_push h3 hA.2.2.1 e1 e2 g1.2.1 g2.2.1 (by omega) ?_ (by rw [oc 16 (by omega)]; exact c1.2.1) (by rw [oc 16 (by omega)]; exact c1.2.2) (fun p q1 q2 q3 q4 => o p (by omega) q3 q4 (by omega) (by omega)) (fun c hc => by rw [m1.1 c hc, e133]) (fun q hq => by rw [m1.2.1 q hq, om 136 (by omega)]) m1.2.2.1 m1.2.2.2
        exact ⟨fun c hc => by rw [oc _ (by omega)]; exact c1.1.1 c hc, by rw [oc _ (by omega)]; exact c1.1.2.1, by rw [oc _ (by omega)]; exact c1.1.2.2.1, by rw [oc _ (by omega)]; exact c1.1.2.2.2⟩
  · rw [if_neg r] at hv
    obtain ⟨rfl, rfl⟩ := hv
    refine ⟨_, I1, J, rfl, rfl, rfl, gs_mono ?_ (m_chimney x nx sz h3.2.1 h3.2.2.1 h3.2.2.2.2.1 h3.2.2.2.2.2.1 g2.1.1 g2.2.1 (by omega) hW8)⟩
    rintro v2 w2 ⟨I2, y2, rfl, rfl, hv2⟩
    rw [if_neg r] at hv2
    obtain ⟨rfl, rfl⟩ := hv2
    exact ⟨rfl, I2, J, rfl, rfl, h⟩
/-- both mornings are as they were kept -/
theorem gv_back {I I2 : Nat → Nat → Int32} {W N h0 L bc a r b : Nat} (h : gv_st I W N h0 L bc) (hm : gv_me I a r b W) (c0 : gz_mm I2 12 I a) (c1 : ∀ p, 6 ≤ p → p ≤ 11 → I2 p = I p) (c2 : I2 78 0 = I 78 0) (c3 : I2 79 0 = I 79 0) (c4 : I2 69 = I 69) (m1 : ∀ q, q < 5 → I2 126 q = I 126 q) (m2 : I2 127 = I 127) (m3 : I2 129 = I 129) (m4 : ∀ c, c < 13 → I2 133 c = I r (b + c)) : ∃ h1 L1, gv_st I2 W N h1 L1 bc := by
  obtain ⟨⟨a1, a2, a3, a4, a5, a6, a7, a8⟩, ⟨b1, b2, b3, b4, b5⟩, hA, e1, e2⟩ := h
  obtain ⟨k1, k2, k3, k4, hh, k5, k6⟩ := hm
  have hS : gz_S I2 = gz_S I := gz_S_eq c1
  have hM : gz_M I2 = gz_M I := gz_M_eq m1 m2 m3
  refine ⟨hh, W - hh, ⟨by rw [hS]; exact a1, by rw [c0.2.2.2]; exact k5, by omega, by rw [c1 6 (by omega) (by omega)]; exact a4, a5, by rw [c2]; exact a6, by rw [c3]; exact a7, by rw [c4]; exact a8⟩, ⟨by rw [hM]; exact b1, by rw [m4 12 (by omega), ← k4]; exact k5, by omega, by rw [m1 0 (by omega)]; exact b4, b5⟩, ⟨by rw [hS, hM]; exact hA.1, by rw [hS, hM]; exact hA.2.1, fun c hc => by rw [show 13 = 12 + 1 from rfl, c0.1 c hc, m4 c (by omega)]; exact k1 c hc, by rw [hS]; exact a1, by rw [hM]; exact b1⟩, by rw [c0.2.1, m4 10 (by omega)]; exact k2, by rw [c0.2.2.1, m4 11 (by omega)]; exact k3⟩
theorem p_undo (h : gv_Inv I J) : gw_E V 74 (0, [(0, .ref 3)], [], gS n I J, 0, 0) (gv_Qi V n (I 0) 133 []) := by
  obtain ⟨W, N, h0, L, bc, l, nx, sz, ssz, no, ho, hd, kb, h1, h2, h3, h4, h5, h6, hJ⟩ := id h
  have hnx := h3.2.2.1
  have hsz := h3.2.2.2.2.2.1
  refine gs_mono ?_ (c_undo nx sz h3.1 hnx h3.2.2.2.1 hsz)
  rintro v w ⟨I1, y, rfl, rfl, hv0, hv1⟩
  by_cases e : sz = 0
  · obtain ⟨rfl, rfl⟩ := hv0 e
    refine ⟨_, I1, J, rfl, rfl, rfl, gs_mono ?_ (m_undo nx sz h3.2.1 hnx h3.2.2.2.2.1 hsz)⟩
    rintro v2 w2 ⟨I2, y2, rfl, rfl, hw0, -⟩
    obtain ⟨rfl, rfl⟩ := hw0 e
    exact ⟨rfl, I2, J, rfl, rfl, h⟩
  · obtain ⟨rfl, c1, c2, c3, c4⟩ := hv1 (by omega)
    have k0 : I1 0 = I 0 := c4 0 (by omega) (by omega) (by omega)
    have om : ∀ p, 126 ≤ p → I1 p = I p := fun p hp => c4 p (by omega) (by omega) (by omega)
    refine ⟨_, I1, J, rfl, rfl, k0, gs_mono ?_ (m_undo nx sz (by rw [om 126 (by omega)]; exact h3.2.1) hnx (by rw [om 126 (by omega)]; exact h3.2.2.2.2.1) hsz)⟩
    rintro v2 w2 ⟨I2, y2, rfl, rfl, -, hw1⟩
    obtain ⟨rfl, m1, m2, m3, m4, m5, m6⟩ := hw1 (by omega)
    have oc : ∀ p, p < 126 → I2 p = I1 p := fun p hp => m6 p (by omega) (by omega)
    have o : ∀ p, p ≠ 12 → p ≠ 13 → p ≠ 16 → p ≠ 126 → p ≠ 133 → I2 p = I p := fun p q1 q2 q3 q4 q5 => (m6 p q4 q5).trans (c4 p q1 q2 q3)
    have o6 : ∀ q, q ≠ 19 → q ≠ 20 → I2 126 q = I 126 q := fun q q1 q2 => by rw [m5 q q1 q2, om 126 (by omega)]
    have hme := h3.2.2.2.2.2.2 0 (by omega)
    rw [Nat.sub_zero] at hme
    obtain ⟨h9, L9, hst⟩ := gv_back (I2 := I2) h1 hme ⟨fun c hc => by rw [oc _ (by omega)]; exact c1.1 c hc, by rw [oc 12 (by omega)]; exact c1.2.1, by rw [oc 12 (by omega)]; exact c1.2.2.1, by rw [oc 12 (by omega)]; exact c1.2.2.2⟩ (fun p q1 q2 => o p (by omega) (by omega) (by omega) (by omega) (by omega)) (by rw [o 78 (by omega) (by omega) (by omega) (by omega) (by omega)]) (by rw [o 79 (by omega) (by omega) (by omega) (by omega) (by omega)]) (o 69 (by omega) (by omega) (by omega) (by omega) (by omega)) (fun q hq => o6 q (by omega) (by omega)) (o 127 (by omega) (by omega) (by omega) (by omega) (by omega)) (o 129 (by omega) (by omega) (by omega) (by omega) (by omega)) (fun c hc => by rw [m1 c hc, om 136 (by omega)])
    have hmod : (nx + 13) % 14 < 14 := Nat.mod_lt _ (by omega)
    refine ⟨rfl, I2, J, rfl, by rw [oc 0 (by omega)]; exact k0, W, N, h9, L9, bc, l, (nx + 13) % 14, sz - 1, ssz, no, ho, hd, kb, hst, gv_tx_o h2 (by rw [o 4 (by omega) (by omega) (by omega) (by omega) (by omega)]) (o 5 (by omega) (by omega) (by omega) (by omega) (by omega)) (o6 15 (by omega) (by omega)) (o 134 (by omega) (by omega) (by omega) (by omega) (by omega)), ⟨by rw [oc 16 (by omega)]; exact c2, m3, hmod, by rw [oc 16 (by omega)]; exact c3, m4, by omega, fun j hj => ?_⟩, gv_sl_o h4 (fun p q1 q2 => o p (by omega) (by omega) (by omega) (by omega) (by omega)) (o 143 (by omega) (by omega) (by omega) (by omega) (by omega)) (o 144 (by omega) (by omega) (by omega) (by omega) (by omega)), gv_si_o h5 (by rw [o 53 (by omega) (by omega) (by omega) (by omega) (by omega)]) (fun p q1 q2 => o p (by omega) (by omega) (by omega) (by omega) (by omega)) (o6 25 (by omega) (by omega)) (fun p q1 q2 => o p (by omega) (by omega) (by omega) (by omega) (by omega)), gv_tb_o h6 (o 1 (by omega) (by omega) (by omega) (by omega) (by omega)) (o 2 (by omega) (by omega) (by omega) (by omega) (by omega)) (o 69 (by omega) (by omega) (by omega) (by omega) (by omega)), hJ⟩
    have hk : ((nx + 13) % 14 + 13 - j) % 14 = (nx + 13 - (j + 1)) % 14 := by omega
    have hlt : (nx + 13 - (j + 1)) % 14 < 14 := Nat.mod_lt _ (by omega)
    rw [hk]
    have := h3.2.2.2.2.2.2 (j + 1) (by omega)
    generalize (nx + 13 - (j + 1)) % 14 = k at this hlt
    exact gv_me_o this (o _ (by omega) (by omega) (by omega) (by omega) (by omega)) (o _ (by omega) (by omega) (by omega) (by omega) (by omega)) (fun q _ _ => by rw [o 136 (by omega) (by omega) (by omega) (by omega) (by omega)])
theorem p_keep (x : Int32) (h : gv_Inv I J) : gw_E V 90 (0, [(0, .ref 3), (1, .int x)], [], gS n I J, 0, 0) (gv_Qi V n (I 0) 160 [.int x]) := by
  obtain ⟨W, N, h0, L, bc, l, nx, sz, ssz, no, ho, hd, kb, h1, h2, h3, h4, h5, h6, hJ⟩ := id h
  obtain ⟨g1, g2, hA, e1, e2⟩ := id h1
  have hL : h0 + L = W := g1.2.2.1
  refine gs_mono ?_ (c_keep x)
  rintro v w ⟨I1, y, rfl, rfl, hv⟩
  by_cases r : gz_lt x 2 = true
  · rw [if_pos r] at hv
    obtain ⟨c, hc, rfl⟩ := gz_lt_nat r (by omega)
    rw [znn (by omega)] at hv
    obtain ⟨rfl, c1, c2, c3, c4⟩ := hv
    have om : ∀ p, 126 ≤ p → I1 p = I p := fun p hp => c4 p (by omega) (by omega) (by omega)
    have k0 : I1 0 = I 0 := c4 0 (by omega) (by omega) (by omega)
    refine ⟨_, I1, J, rfl, rfl, k0, gs_mono ?_ (m_keep (Int32.ofNat c))⟩
    rintro v2 w2 ⟨I2, y2, rfl, rfl, hv2⟩
    rw [if_pos r, znn (by omega)] at hv2
    obtain ⟨rfl, m1, m2, m3, m4, m5⟩ := hv2
    have e133 := om 133 (by omega)
    have oc : ∀ p, p < 143 → I2 p = I1 p := fun p hp => m5 p (by omega) (by omega)
    have o : ∀ p, p ≠ 49 + 2 * c → p ≠ 49 + 2 * c + 1 → p ≠ 48 → p ≠ 143 → p ≠ 144 → I2 p = I p := fun p q1 q2 q3 q4 q5 => (m5 p q4 q5).trans (c4 p q1 q2 q3)
    refine ⟨by rw [e133, g2.2.1, g1.2.1], I2, J, rfl, by rw [oc 0 (by omega)]; exact k0, W, N, h0, L, bc, l, nx, sz, ssz, no, ho, hd, fun s => if s = c then true else kb s, gv_st_o h1 (fun p _ _ => o p (by omega) (by omega) (by omega) (by omega) (by omega)) (by rw [o 78 (by omega) (by omega) (by omega) (by omega) (by omega)]) (by rw [o 79 (by omega) (by omega) (by omega) (by omega) (by omega)]) (o 69 (by omega) (by omega) (by omega) (by omega) (by omega)) (fun q _ => by rw [o 126 (by omega) (by omega) (by omega) (by omega) (by omega)]) (o 127 (by omega) (by omega) (by omega) (by omega) (by omega)) (o 129 (by omega) (by omega) (by omega) (by omega) (by omega)) (fun q _ => by rw [o 133 (by omega) (by omega) (by omega) (by omega) (by omega)]), gv_tx_o h2 (by rw [o 4 (by omega) (by omega) (by omega) (by omega) (by omega)]) (o 5 (by omega) (by omega) (by omega) (by omega) (by omega)) (by rw [o 126 (by omega) (by omega) (by omega) (by omega) (by omega)]) (o 134 (by omega) (by omega) (by omega) (by omega) (by omega)), gv_ac_o h3 (fun p _ _ => o p (by omega) (by omega) (by omega) (by omega) (by omega)) (by rw [o 126 (by omega) (by omega) (by omega) (by omega) (by omega)]) (by rw [o 126 (by omega) (by omega) (by omega) (by omega) (by omega)]) (o 136 (by omega) (by omega) (by omega) (by omega) (by omega)), fun s hs => ?_, gv_si_o h5 (by rw [o 53 (by omega) (by omega) (by omega) (by omega) (by omega)]) (fun p _ _ => o p (by omega) (by omega) (by omega) (by omega) (by omega)) (by rw [o 126 (by omega) (by omega) (by omega) (by omega) (by omega)]) (fun p _ _ => o p (by omega) (by omega) (by omega) (by omega) (by omega)), gv_tb_o h6 (o 1 (by omega) (by omega) (by omega) (by omega) (by omega)) (o 2 (by omega) (by omega) (by omega) (by omega) (by omega)) (o 69 (by omega) (by omega) (by omega) (by omega) (by omega)), hJ⟩
    by_cases e : s = c
    · subst e
      simp only [if_true]
      refine ⟨by rw [oc 48 (by omega), c2]; rfl, by rw [m3]; rfl, fun _ => ⟨fun c hc => by rw [oc _ (by omega), c1.1 c hc, m1 c (by omega), e133]; exact hA.2.2.1 c hc, by rw [oc _ (by omega), c1.2.1, m1 10 (by omega), e133]; exact e1, by rw [oc _ (by omega), c1.2.2.1, m1 11 (by omega), e133]; exact e2, by rw [oc _ (by omega), c1.2.2.2, m1 12 (by omega), e133, g2.2.1, g1.2.1], h0, by rw [oc _ (by omega), c1.2.2.2]; exact g1.2.1, by omega⟩⟩
    · simp only [e, if_false]
      obtain ⟨a1, a2, a3⟩ := h4 s hs
      refine ⟨by rw [oc 48 (by omega), c3 s e]; exact a1, by rw [m4 s e, om 143 (by omega)]; exact a2, fun k => gv_me_o (a3 k) (o _ (by omega) (by omega) (by omega) (by omega) (by omega)) (o _ (by omega) (by omega) (by omega) (by omega) (by omega)) (fun q q1 q2 => by rw [m2 q (by omega), om 144 (by omega)])⟩
  · rw [if_neg r] at hv
    obtain ⟨rfl, rfl⟩ := hv
    refine ⟨_, I1, J, rfl, rfl, rfl, gs_mono ?_ (m_keep x)⟩
    rintro v2 w2 ⟨I2, y2, rfl, rfl, hv2⟩
    rw [if_neg r] at hv2
    obtain ⟨rfl, rfl⟩ := hv2
    exact ⟨rfl, I2, J, rfl, rfl, h⟩
theorem p_again (x : Int32) (h : gv_Inv I J) : gw_E V 91 (0, [(0, .ref 3), (1, .int x)], [], gS n I J, 0, 0) (gv_Qi V n (I 0) 161 [.int x]) := by
  obtain ⟨W, N, h0, L, bc, l, nx, sz, ssz, no, ho, hd, kb, h1, h2, h3, h4, h5, h6, hJ⟩ := id h
  refine gs_mono ?_ (c_again x kb (fun s hs => (h4 s hs).1))
  rintro v w ⟨I1, y, rfl, rfl, hv⟩
  by_cases r : gz_lt x 2 = true
  · rw [if_pos r] at hv
    obtain ⟨c, hc, rfl⟩ := gz_lt_nat r (by omega)
    rw [znn (by omega)] at hv
    by_cases k : kb c = true
    · rw [if_pos k] at hv
      obtain ⟨rfl, c1, c2, c3, c4⟩ := hv
      have om : ∀ p, 17 ≤ p → I1 p = I p := fun p hp => c4 p (by omega) (by omega) (by omega)
      have k0 : I1 0 = I 0 := c4 0 (by omega) (by omega) (by omega)
      refine ⟨_, I1, J, rfl, rfl, k0, gs_mono ?_ (m_again (Int32.ofNat c) kb (fun s hs => by rw [om 143 (by omega)]; exact (h4 s hs).2.1))⟩
      rintro v2 w2 ⟨I2, y2, rfl, rfl, hv2⟩
      rw [if_pos r, znn (by omega), if_pos k] at hv2
      obtain ⟨rfl, m1, m2, m3, m4, m5⟩ := hv2
      have hme := (h4 c hc).2.2 k
      have oc : ∀ p, p < 126 → I2 p = I1 p := fun p hp => m5 p (by omega) (by omega)
      have o : ∀ p, p ≠ 12 → p ≠ 13 → p ≠ 16 → p ≠ 126 → p ≠ 133 → I2 p = I p := fun p q1 q2 q3 q4 q5 => (m5 p q4 q5).trans (c4 p q1 q2 q3)
      have o6 : ∀ q, q ≠ 19 → I2 126 q = I 126 q := fun q q1 => by rw [m4 q q1, om 126 (by omega)]
      obtain ⟨h9, L9, hst⟩ := gv_back (I2 := I2) h1 hme ⟨fun c hc => by rw [oc _ (by omega)]; exact c1.1 c hc, by rw [oc 12 (by omega)]; exact c1.2.1, by rw [oc 12 (by omega)]; exact c1.2.2.1, by rw [oc 12 (by omega)]; exact c1.2.2.2⟩ (fun p q1 q2 => o p (by omega) (by omega) (by omega) (by omega) (by omega)) (by rw [o 78 (by omega) (by omega) (by omega) (by omega) (by omega)]) (by rw [o 79 (by omega) (by omega) (by omega) (by omega) (by omega)]) (o 69 (by omega) (by omega) (by omega) (by omega) (by omega)) (fun q hq => o6 q (by omega)) (o 127 (by omega) (by omega) (by omega) (by omega) (by omega)) (o 129 (by omega) (by omega) (by omega) (by omega) (by omega)) (fun c hc => by rw [m1 c hc, om 144 (by omega)])
      refine ⟨by rw [om 144 (by omega), hme.2.2.2.1], I2, J, rfl, by rw [oc 0 (by omega)]; exact k0, W, N, h9, L9, bc, l, nx, 0, ssz, no, ho, hd, kb, hst, gv_tx_o h2 (by rw [o 4 (by omega) (by omega) (by omega) (by omega) (by omega)]) (o 5 (by omega) (by omega) (by omega) (by omega) (by omega)) (o6 15 (by omega)) (o 134 (by omega) (by omega) (by omega) (by omega) (by omega)), ⟨by rw [oc 16 (by omega), c3]; exact h3.1, by rw [o6 20 (by omega)]; exact h3.2.1, h3.2.2.1, by rw [oc 16 (by omega)]; exact c2, m3, by omega, fun j hj => absurd hj (Nat.not_lt_zero _)⟩, gv_sl_o h4 (fun p q1 q2 => o p (by omega) (by omega) (by omega) (by omega) (by omega)) (o 143 (by omega) (by omega) (by omega) (by omega) (by omega)) (o 144 (by omega) (by omega) (by omega) (by omega) (by omega)), gv_si_o h5 (by rw [o 53 (by omega) (by omega) (by omega) (by omega) (by omega)]) (fun p q1 q2 => o p (by omega) (by omega) (by omega) (by omega) (by omega)) (o6 25 (by omega)) (fun p q1 q2 => o p (by omega) (by omega) (by omega) (by omega) (by omega)), gv_tb_o h6 (o 1 (by omega) (by omega) (by omega) (by omega) (by omega)) (o 2 (by omega) (by omega) (by omega) (by omega) (by omega)) (o 69 (by omega) (by omega) (by omega) (by omega) (by omega)), hJ⟩
    · rw [if_neg k] at hv
      obtain ⟨rfl, rfl⟩ := hv
      refine ⟨_, I1, J, rfl, rfl, rfl, gs_mono ?_ (m_again (Int32.ofNat c) kb (fun s hs => (h4 s hs).2.1))⟩
      rintro v2 w2 ⟨I2, y2, rfl, rfl, hv2⟩
      rw [if_pos r, znn (by omega), if_neg k] at hv2
      obtain ⟨rfl, rfl⟩ := hv2
      exact ⟨rfl, I2, J, rfl, rfl, h⟩
  · rw [if_neg r] at hv
    obtain ⟨rfl, rfl⟩ := hv
    refine ⟨_, I1, J, rfl, rfl, rfl, gs_mono ?_ (m_again x kb (fun s hs => (h4 s hs).2.1))⟩
    rintro v2 w2 ⟨I2, y2, rfl, rfl, hv2⟩
    rw [if_neg r] at hv2
    obtain ⟨rfl, rfl⟩ := hv2
    exact ⟨rfl, I2, J, rfl, rfl, h⟩
theorem p_street (h : gv_Inv I J) : gw_E V 67 (0, [(0, .ref 3)], [], gS n I J, 0, 0) (gv_Qi V n (I 0) 117 []) := by
  obtain ⟨W, N, h0, L, bc, l, nx, sz, ssz, no, ho, hd, kb, h1, h2, h3, h4, h5, h6, hJ⟩ := id h
  obtain ⟨W1, hT⟩ := gz_wT_ex (I 5) l
  have h48 := h2.2.2.1
  have hla := gv_la h2
  refine gs_mono ?_ (c_street l W1 hT h2.1 h48)
  rintro v w ⟨y, hF, I1, rfl, hv⟩
  have hT2 := gz_wT_c hla hT
  by_cases e : y = -99
  · rw [if_pos e] at hv
    subst e
    obtain ⟨rfl, c1, c2, c3, c4, c5, c6, c7, c8, c9⟩ := hv
    have om : ∀ p, 49 ≤ p → I1 p = I p := fun p hp => c9 p (by omega) (by omega) (by omega)
    have k0 : I1 0 = I 0 := c9 0 (by omega) (by omega) (by omega)
    have e134 := om 134 (by omega)
    refine ⟨_, I1, J, rfl, rfl, k0, gs_mono ?_ (m_street l W1 (by rw [e134]; exact hT2) (by rw [om 126 (by omega)]; exact h2.2.1) h48)⟩
    rintro v2 w2 ⟨y2, hF2, I2, rfl, hv2⟩
    rw [e134] at hF2
    have ey := gz_fp_one hla hF hF2
    rw [if_pos ey.symm] at hv2
    obtain ⟨rfl, m1, m2, m3, m4, m5, m6⟩ := hv2
    rw [e134] at m1
    obtain ⟨q4, qg⟩ := gz_fp_ok hF h48
    have qg2 : ∀ j, j < l → gz_fi (I 134) l W1 j = true := fun j hj => by rw [← gz_fi_c hla]; exact qg j hj
    have okS := gz_rd_ok hT q4 qg c1
    have okM := gz_rd_ok hT2 q4 qg2 m1
    have oc : ∀ p, p < 126 → I2 p = I1 p := fun p hp => m6 p (by omega) (by omega) (by omega) (by omega) (by omega) (by omega)
    have hS2 : gz_S I2 = gz_S I1 := gz_S_eq (fun p _ _ => oc p (by omega))
    have ox : ∀ p, 126 < p → ¬ (127 ≤ p ∧ p ≤ 133) → p ≠ 135 → p ≠ 137 → p ≠ 141 → p ≠ 142 → p ≠ 143 → I2 p = I p := fun p q0 q1 q2 q3 q4 q5 q6 => (m6 p (by omega) q2 q3 q4 q5 q6).trans (om p (by omega))
    have o6 : ∀ q, 5 ≤ q → q ≠ 11 → q ≠ 12 → q ≠ 16 → q ≠ 17 → q ≠ 19 → q ≠ 22 → q ≠ 23 → q ≠ 30 → q ≠ 31 → I2 126 q = I 126 q := fun q a1 a2 a3 a4 a5 a6 a7 a8 a9 aa => by rw [m5 q a1 a2 a3 a4 a5 a6 a7 a8 a9 aa, om 126 (by omega)]
    obtain ⟨r0, r1, r2, r3, r4, r5, r6⟩ := id c1
    obtain ⟨t0, t1, t2, t3, t4, t5, t6⟩ := id m1
    have hsim : gq_sim (gz_S I1) (gz_M I2) ((l - 4 - W1) / 5) := ⟨by rw [r1, t1, hla], by rw [r2, t2, hla], fun m hm p p2 p5 => by
      obtain ⟨c, rfl⟩ : ∃ c, p = 2 + c := ⟨p - 2, by omega⟩
      rw [r6 m hm c (by omega), t6 m hm c (by omega), hla]⟩
    obtain ⟨b, hb, hb9⟩ : ∃ b, gz_S I1 0 0 = Int32.ofNat b ∧ b ≤ 9 := zto (b := 9) (by decide) okS.2.2.2.2.1
    have hbm : gz_M I2 0 0 = Int32.ofNat b := by rw [t0, ← hla, ← r0]; exact hb
    have hnow := h1.1
    refine ⟨rfl, I2, J, rfl, by rw [oc 0 (by omega)]; exact k0, W1, (l - 4 - W1) / 5, 0, W1, b, l, nx, 0, ssz, no, ho, hd, fun _ => false, ⟨⟨by rw [hS2]; exact okS, by rw [oc 12 (by omega)]; exact c5, by omega, by rw [oc 6 (by omega)]; exact hb, by omega, by rw [oc 78 (by omega), om 78 (by omega)]; exact hnow.2.2.2.2.2.1, by rw [oc 79 (by omega), om 79 (by omega)]; exact hnow.2.2.2.2.2.2.1, fun m hm => ?_⟩, ⟨okM, m2 12 (by omega), by omega, hbm, by omega⟩, ⟨by rw [hS2]; exact hsim, fun k hk => by rw [hS2, r5 k hk, t5 k hk, hla], fun c hc => by rw [oc 13 (by omega), c2 c hc, m2 c (by omega)], by rw [hS2]; exact okS, okM⟩, by rw [oc 12 (by omega), c3, m2 10 (by omega)], by rw [oc 12 (by omega), c4, m2 11 (by omega)]⟩, gv_tx_o h2 (by rw [oc 4 (by omega), c9 4 (by omega) (by omega) (by omega)]) (by rw [oc 5 (by omega), c9 5 (by omega) (by omega) (by omega)]) (o6 15 (by omega) (by omega) (by omega) (by omega) (by omega) (by omega) (by omega) (by omega) (by omega) (by omega)) (ox 134 (by omega) (by omega) (by omega) (by omega) (by omega) (by omega) (by omega)), ⟨by rw [oc 16 (by omega), c6]; exact h3.1, by rw [o6 20 (by omega) (by omega) (by omega) (by omega) (by omega) (by omega) (by omega) (by omega) (by omega) (by omega)]; exact h3.2.1, h3.2.2.1, by rw [oc 16 (by omega)]; exact c7, m3, by omega, fun j hj => absurd hj (Nat.not_lt_zero _)⟩, fun s hs => ⟨by rw [oc 48 (by omega)]; exact c8 s hs, m4 s hs, fun k => by cases k⟩, gv_si_o h5 (by rw [oc 53 (by omega), om 53 (by omega)]) (fun p q1 q2 => by rw [oc p (by omega), om p (by omega)]) (o6 25 (by omega) (by omega) (by omega) (by omega) (by omega) (by omega) (by omega) (by omega) (by omega) (by omega)) (fun p q1 q2 => ox p (by omega) (by omega) (by omega) (by omega) (by omega) (by omega) (by omega)), gv_tb_o h6 (by rw [oc 1 (by omega), c9 1 (by omega) (by omega) (by omega)]) (by rw [oc 2 (by omega), c9 2 (by omega) (by omega) (by omega)]) (by rw [oc 69 (by omega), om 69 (by omega)]), hJ⟩
    rw [oc 69 (by omega), om 69 (by omega)]; exact h6.2.2 m (by have := okS.2.2.2.1; omega)
  · rw [if_neg e] at hv
    obtain ⟨rfl, rfl⟩ := hv
    refine ⟨_, I1, J, rfl, rfl, rfl, gs_mono ?_ (m_street l W1 hT2 h2.2.1 h48)⟩
    rintro v2 w2 ⟨y2, hF2, I2, rfl, hv2⟩
    have ey := gz_fp_one hla hF hF2
    rw [if_neg (by rw [← ey]; exact e)] at hv2
    exact ⟨hv2.1, I2, J, rfl, gm_qf_0 hv2.2, gv_Inv_fr h (gv_fr_m hv2.2) hJ⟩
end
