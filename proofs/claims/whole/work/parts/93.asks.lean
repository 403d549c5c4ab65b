/-! ===== the questions, in pairs ===== -/
section
variable {V : gw_V} {n : Nat} {I : Nat → Nat → Int32} {J : Nat → Nat → Int64}
theorem p_by (x : Int32) (h : gv_Inv I J) : gw_E V 75 (0, [(0, .ref 3), (1, .int x)], [], gS n I J, 0, 0) (gv_Qi V n (I 0) 136 [.int x]) := by
  obtain ⟨W, N, h0, L, bc, l, nx, sz, ssz, no, ho, hd, kb, ⟨h1, h2, hA, e1, e2⟩, -, -, -, -, -, hJ⟩ := id h
  have hL := h1.2.2.1
  refine gs_mono ?_ (c_by x h1)
  rintro v w ⟨rfl, I1, rfl, q1⟩
  obtain ⟨k1, k2, k3, k4⟩ := gq_qf_m q1 h2
  refine ⟨_, I1, J, rfl, rfl, k4, gs_mono ?_ (m_by x k1)⟩
  rintro v2 w2 ⟨rfl, I2, rfl, q2⟩
  refine ⟨?_, I2, J, rfl, by rw [gm_qf_0 q2]; exact k4, gv_Inv_fr h (gv_fr_tr (gv_fr_q q1) (gv_fr_m q2)) hJ⟩
  rw [k2, k3, ← e1, av_cm hA hL 0]
theorem p_had (x : Int32) (h : gv_Inv I J) : gw_E V 80 (0, [(0, .ref 3), (1, .int x)], [], gS n I J, 0, 0) (gv_Qi V n (I 0) 145 [.int x]) := by
  obtain ⟨W, N, h0, L, bc, l, nx, sz, ssz, no, ho, hd, kb, ⟨h1, h2, hA, e1, e2⟩, -, -, -, -, -, hJ⟩ := id h
  have hL := h1.2.2.1
  refine gs_mono ?_ (c_hadp x h1)
  rintro v w ⟨rfl, I1, rfl, q1⟩
  obtain ⟨k1, k2, k3, k4⟩ := gq_qf_m q1 h2
  refine ⟨_, I1, J, rfl, rfl, k4, gs_mono ?_ (m_had x k1)⟩
  rintro v2 w2 ⟨rfl, I2, rfl, q2⟩
  refine ⟨?_, I2, J, rfl, by rw [gm_qf_0 q2]; exact k4, gv_Inv_fr h (gv_fr_tr (gv_fr_q q1) (gv_fr_m q2)) hJ⟩
  rw [k2, k3, ← e1, av_hd hA hL 0]
theorem p_best (pn : Bool) (h : gv_Inv I J) : gw_E V 76 (0, [(0, .ref 3), (1, .int (gz_b pn))], [], gS n I J, 0, 0) (gv_Qi V n (I 0) 138 [.int (gz_b pn)]) := by
  obtain ⟨W, N, h0, L, bc, l, nx, sz, ssz, no, ho, hd, kb, ⟨h1, h2, hA, e1, e2⟩, -, -, -, -, -, hJ⟩ := id h
  have hL := h1.2.2.1
  refine gs_mono ?_ (c_best pn h1)
  rintro v w ⟨I1, p, rfl, q1, b1, rfl⟩
  obtain ⟨k1, k2, k3, k4⟩ := gq_qf_m q1 h2
  refine ⟨_, I1, J, rfl, rfl, k4, gs_mono ?_ (m_best pn k1)⟩
  rintro v2 w2 ⟨I2, p2, rfl, q2, b2, rfl⟩
  refine ⟨?_, I2, J, rfl, by rw [gm_qf_0 q2]; exact k4, gv_Inv_fr h (gv_fr_tr (gv_fr_q q1) (gv_fr_m q2)) hJ⟩
  rw [k2, k3, ← e1, ← av_val hA hL] at b2
  rw [gq_bst_one b1 b2, k2, k3, ← e1, ← av_val hA hL]
theorem p_bestChimney (h : gv_Inv I J) : gw_E V 77 (0, [(0, .ref 3)], [], gS n I J, 0, 0) (gv_Qi V n (I 0) 139 []) := by
  obtain ⟨W, N, h0, L, bc, l, nx, sz, ssz, no, ho, hd, kb, ⟨h1, h2, hA, e1, e2⟩, -, -, -, -, -, hJ⟩ := id h
  have hL := h1.2.2.1
  refine gs_mono ?_ (c_bestChimney h1)
  rintro v w ⟨I1, x, f, rfl, q1, b1, rfl⟩
  obtain ⟨k1, k2, k3, k4⟩ := gq_qf_m q1 h2
  refine ⟨_, I1, J, rfl, rfl, k4, gs_mono ?_ (m_bestChimney k1)⟩
  rintro v2 w2 ⟨I2, x2, f2, rfl, q2, b2, rfl⟩
  refine ⟨?_, I2, J, rfl, by rw [gm_qf_0 q2]; exact k4, gv_Inv_fr h (gv_fr_tr (gv_fr_q q1) (gv_fr_m q2)) hJ⟩
  rw [k2, k3, ← e1, ← av_val hA hL, show (fun c => gq_val (gz_M I) N h0 L bc (gq_tc (I 12 1) c) (I 133) (fun _ => true)) = (fun c => gq_val (gz_S I) N h0 L bc (gq_tc (I 12 1) c) (I 13) (fun _ => true)) from funext (fun c => (av_val hA hL _).symm)] at b2
  rw [(gq_bc_one b1 b2).2]
theorem p_share (x : Int32) (up : Bool) (h : gv_Inv I J) : gw_E V 78 (0, [(0, .ref 3), (1, .int x), (2, .int (gz_b up))], [], gS n I J, 0, 0) (gv_Qi V n (I 0) 142 [.int x, .int (gz_b up)]) := by
  obtain ⟨W, N, h0, L, bc, l, nx, sz, ssz, no, ho, hd, kb, ⟨h1, h2, hA, e1, e2⟩, -, -, -, -, hT, hJ⟩ := id h
  have hL := h1.2.2.1
  refine gs_mono ?_ (c_share x up hT.1 h1)
  rintro v w ⟨b, rfl, b1, I1, rfl, q1⟩
  obtain ⟨k1, k2, k3, k4⟩ := gq_qf_m q1 h2
  refine ⟨_, I1, J, rfl, rfl, k4, gs_mono ?_ (m_share x up k1)⟩
  rintro v2 w2 ⟨d, rfl, b2, I2, rfl, q2⟩
  refine ⟨?_, I2, J, rfl, by rw [gm_qf_0 q2]; exact k4, gv_Inv_fr h (gv_fr_tr (gv_fr_q q1) (gv_fr_m q2)) hJ⟩
  rw [k2, k3, ← e1] at b2
  rw [av_sh hA hL b1 b2]
theorem p_judge (x y : Int32) (h : gv_Inv I J) : gw_E V 79 (0, [(0, .ref 3), (1, .int x), (2, .int y)], [], gS n I J, 0, 0) (gv_Qi V n (I 0) 144 [.int x, .int y]) := by
  obtain ⟨W, N, h0, L, bc, l, nx, sz, ssz, no, ho, hd, kb, ⟨h1, h2, hA, e1, e2⟩, -, -, -, -, hT, hJ⟩ := id h
  have hL := h1.2.2.1
  refine gs_mono ?_ (c_judge x y h1 hT.2.1)
  rintro v w ⟨b, rfl, b1, I1, rfl, q1⟩
  obtain ⟨k1, k2, k3, k4⟩ := gq_qf_m q1 h2
  refine ⟨_, I1, J, rfl, rfl, k4, gs_mono ?_ (m_judge x y k1)⟩
  rintro v2 w2 ⟨d, rfl, b2, I2, rfl, q2⟩
  refine ⟨?_, I2, J, rfl, by rw [gm_qf_0 q2]; exact k4, gv_Inv_fr h (gv_fr_tr (gv_fr_q q1) (gv_fr_m q2)) hJ⟩
  rw [k2, k3, ← e1] at b2
  rw [av_jg hA hL b1 b2]
theorem p_only (x : Int32) (h : gv_Inv I J) : gw_E V 81 (0, [(0, .ref 3), (1, .int x)], [], gS n I J, 0, 0) (gv_Qi V n (I 0) 146 [.int x]) := by
  obtain ⟨W, N, h0, L, bc, l, nx, sz, ssz, no, ho, hd, kb, ⟨h1, h2, hA, e1, e2⟩, -, -, -, -, hT, hJ⟩ := id h
  have hL := h1.2.2.1
  refine gs_mono ?_ (c_only x h1)
  rintro v w ⟨I1, b, rfl, q1, b1, rfl⟩
  obtain ⟨k1, k2, k3, k4⟩ := gq_qf_m q1 h2
  refine ⟨_, I1, J, rfl, rfl, k4, gs_mono ?_ (m_only x k1)⟩
  rintro v2 w2 ⟨I2, d, rfl, q2, b2, rfl⟩
  refine ⟨?_, I2, J, rfl, by rw [gm_qf_0 q2]; exact k4, gv_Inv_fr h (gv_fr_tr (gv_fr_q q1) (gv_fr_m q2)) hJ⟩
  have b2 : gq_oa (gq_hv (gz_M I1) N h0 L bc (I1 133 10) (I1 133)) x N h0 L d := b2
  rw [k2, k3, ← e1] at b2
  rw [av_oa hA hL b1 b2]
theorem p_when (x : Int32) (h : gv_Inv I J) : gw_E V 84 (0, [(0, .ref 3), (1, .int x)], [], gS n I J, 0, 0) (gv_Qi V n (I 0) 150 [.int x]) := by
  obtain ⟨W, N, h0, L, bc, l, nx, sz, ssz, no, ho, hd, kb, ⟨h1, h2, hA, e1, e2⟩, -, -, -, hS, hT, hJ⟩ := id h
  have hW8 := h1.1.2.1
  refine gs_mono ?_ (c_when x ssz no ho hd hS.1 h1)
  rintro v w ⟨I1, rfl, rfl, q1, q2, q3, q4, q5⟩
  have hM : gz_M I1 = gz_M I := gz_M_eq (fun k _ => by rw [q1 126 (by omega) (by omega) (by omega) (by omega)]) (q1 127 (by omega) (by omega) (by omega) (by omega)) (q1 129 (by omega) (by omega) (by omega) (by omega))
  have f1 : gv_fr I I1 := ⟨fun p hp => q1 p (by omega) (by omega) (by omega) (by omega), q5, q2, q3, q4, fun q _ => by rw [q1 126 (by omega) (by omega) (by omega) (by omega)], fun p hp => q1 p (by omega) (by omega) (by omega) (by omega), fun q _ => by rw [q1 133 (by omega) (by omega) (by omega) (by omega)]⟩
  have k1 : gm_now I1 W N h0 L bc := ⟨by rw [hM]; exact h2.1, by rw [q1 133 (by omega) (by omega) (by omega) (by omega)]; exact h2.2.1, h2.2.2.1, by rw [q1 126 (by omega) (by omega) (by omega) (by omega)]; exact h2.2.2.2.1, h2.2.2.2.2⟩
  have s1 : gm_si I1 ssz no ho hd := (gv_si_o hS q5 (fun p _ _ => q1 p (by omega) (by omega) (by omega) (by omega)) (by rw [q1 126 (by omega) (by omega) (by omega) (by omega)]) (fun p _ _ => q1 p (by omega) (by omega) (by omega) (by omega))).2
  have k4 : I1 0 = I 0 := q1 0 (by omega) (by omega) (by omega) (by omega)
  refine ⟨_, I1, J, rfl, rfl, k4, gs_mono ?_ (m_when x ssz no ho hd s1 k1)⟩
  rintro v2 w2 ⟨I2, rfl, q6, rfl⟩
  refine ⟨?_, I2, J, rfl, by rw [gm_qf_0 q6]; exact k4, gv_Inv_fr h (gv_fr_tr f1 (gv_fr_m q6)) hJ⟩
  have hsp := av_sp (bc := bc) (σ := gz_S I) (τ := gz_M I) (W := W) (N := N) ⟨hA.1, hA.2.1, fun _ _ => rfl, hA.2.2.2.1, hA.2.2.2.2⟩ ssz no ho hd
  rw [hM, ← hsp, gq_cn_p _ (by omega), gq_al_p _ _ (by omega), gq_no_p _ _ (by omega)]
theorem p_mean (pl x : Int32) (up : Bool) (h : gv_Inv I J) : gw_E V 85 (0, [(0, .ref 3), (1, .int pl), (2, .int x), (3, .int (gz_b up))], [], gS n I J, 0, 0) (gv_Ql V n (I 0) 152 [.int pl, .int x, .int (gz_b up)]) := by
  obtain ⟨W, N, h0, L, bc, l, nx, sz, ssz, no, ho, hd, kb, ⟨h1, h2, hA, e1, e2⟩, -, -, -, -, hT, hJ⟩ := id h
  have hL := h1.2.2.1
  refine gs_mono ?_ (c_mean pl x up h1)
  rintro v w ⟨rfl, I1, rfl, q1⟩
  obtain ⟨k1, k2, k3, k4⟩ := gq_qf_m q1 h2
  refine ⟨_, I1, J, rfl, rfl, k4, gs_mono ?_ (m_mean pl x up k1)⟩
  rintro v2 w2 ⟨rfl, I2, J2, rfl, q2, j2⟩
  refine ⟨?_, I2, J2, rfl, by rw [gm_qf_0 q2]; exact k4, gv_Inv_fr h (gv_fr_tr (gv_fr_q q1) (gv_fr_m q2)) (by rw [j2 3 11 (by omega), j2 126 34 (by omega)]; exact hJ)⟩
  rw [k2, k3, ← e1, av_mean hA hL pl x (fun m q9 => by cases q9) up]
theorem p_fair (k pl x : Int32) (up : Bool) (h : gv_Inv I J) : gw_E V 86 (0, [(0, .ref 3), (1, .int k), (2, .int pl), (3, .int x), (4, .int (gz_b up))], [], gS n I J, 0, 0) (gv_Ql V n (I 0) 153 [.int k, .int pl, .int x, .int (gz_b up)]) := by
  obtain ⟨W, N, h0, L, bc, l, nx, sz, ssz, no, ho, hd, kb, ⟨h1, h2, hA, e1, e2⟩, -, -, -, -, hT, hJ⟩ := id h
  have hL := h1.2.2.1
  have hN6 := h1.1.2.2.2.1
  refine gs_mono ?_ (c_fair k pl x up h1)
  rintro v w ⟨rfl, I1, rfl, q1⟩
  obtain ⟨k1, k2, k3, k4⟩ := gq_qf_m q1 h2
  refine ⟨_, I1, J, rfl, rfl, k4, gs_mono ?_ (m_fair k pl x up k1)⟩
  rintro v2 w2 ⟨rfl, I2, J2, rfl, q2, j2⟩
  refine ⟨?_, I2, J2, rfl, by rw [gm_qf_0 q2]; exact k4, gv_Inv_fr h (gv_fr_tr (gv_fr_q q1) (gv_fr_m q2)) (by rw [j2 3 11 (by omega), j2 126 34 (by omega)]; exact hJ)⟩
  rw [gz_rg_lt k N (by omega)]
  by_cases e : gz_lt k N = true
  · rw [if_pos e, if_pos e]
    obtain ⟨m, hm, rfl⟩ := gz_lt_nat e (by omega)
    rw [k2, k3, ← e1, znn (by omega), av_mean hA hL pl x (fun j q9 => by cases q9; exact hm) up]
  · rw [if_neg e, if_neg e]
theorem p_bakers (c x : Int32) (h : gv_Inv I J) : gw_E V 87 (0, [(0, .ref 3), (1, .int c), (2, .int x)], [], gS n I J, 0, 0) (gv_Qi V n (I 0) 157 [.int c, .int x]) := by
  obtain ⟨W, N, h0, L, bc, l, nx, sz, ssz, no, ho, hd, kb, ⟨h1, h2, hA, e1, e2⟩, -, -, -, -, hT, hJ⟩ := id h
  have hL := h1.2.2.1
  refine gs_mono ?_ (c_bakers c x h1)
  rintro v w ⟨rfl, I1, rfl, q1⟩
  obtain ⟨k1, k2, k3, k4⟩ := gq_qf_m q1 h2
  refine ⟨_, I1, J, rfl, rfl, k4, gs_mono ?_ (m_bakers c x k1)⟩
  rintro v2 w2 ⟨rfl, I2, rfl, q2⟩
  refine ⟨?_, I2, J, rfl, by rw [gm_qf_0 q2]; exact k4, gv_Inv_fr h (gv_fr_tr (gv_fr_q q1) (gv_fr_m q2)) hJ⟩
  rw [k2, k3, ← e1, av_ba hA hL]
theorem p_mornings (a : Int32) (h : gv_Inv I J) : gw_E V 89 (0, [(0, .ref 3), (1, .int a)], [], gS n I J, 0, 0) (gv_Qi V n (I 0) 159 [.int a]) := by
  obtain ⟨W, N, h0, L, bc, l, nx, sz, ssz, no, ho, hd, kb, ⟨h1, h2, hA, e1, e2⟩, -, -, -, -, hT, hJ⟩ := id h
  have hL := h1.2.2.1
  refine gs_mono ?_ (c_mornings a h1)
  rintro v w ⟨I1, J1, rfl, q1, j1, hv⟩
  obtain ⟨k1, k2, k3, k4⟩ := gq_qf_m q1 h2
  have e34 : J1 126 34 = J 3 11 := (j1 126 34 (by omega)).trans hJ.symm
  by_cases e : 1 ≤ a ∧ a ≤ 20
  · rw [if_pos e] at hv
    obtain ⟨rfl, hj⟩ := hv
    refine ⟨_, I1, J1, rfl, rfl, k4, gs_mono ?_ (m_mornings a k1)⟩
    rintro v2 w2 ⟨I2, J2, rfl, q2, j2, hv2⟩
    rw [if_pos e] at hv2
    refine ⟨?_, I2, J2, rfl, by rw [gm_qf_0 q2]; exact k4, gv_Inv_fr h (gv_fr_tr (gv_fr_q q1) (gv_fr_m q2)) (by rw [hv2.2, j2 3 11 (by omega), hj, e34])⟩
    rw [hv2.1, k2, k3, ← e1, e34, av_ms hA hL]
  · rw [if_neg e] at hv
    obtain ⟨rfl, hj⟩ := hv
    refine ⟨_, I1, J1, rfl, rfl, k4, gs_mono ?_ (m_mornings a k1)⟩
    rintro v2 w2 ⟨I2, J2, rfl, q2, j2, hv2⟩
    rw [if_neg e] at hv2
    exact ⟨hv2.1, I2, J2, rfl, by rw [gm_qf_0 q2]; exact k4, gv_Inv_fr h (gv_fr_tr (gv_fr_q q1) (gv_fr_m q2)) (by rw [hv2.2, j2 3 11 (by omega), hj, e34])⟩
theorem p_smell (x : Int32) (h : gv_Inv I J) : gw_E V 68 (0, [(0, .ref 3), (1, .int x)], [], gS n I J, 0, 0) (gv_Qi V n (I 0) 119 [.int x]) := by
  obtain ⟨W, N, h0, L, bc, l, nx, sz, ssz, no, ho, hd, kb, ⟨h1, h2, hA, e1, e2⟩, -, -, -, -, hT, hJ⟩ := id h
  refine gs_mono ?_ (c_smell x)
  rintro v w ⟨rfl, rfl⟩
  refine ⟨_, I, J, rfl, rfl, rfl, gs_mono ?_ (m_smell x)⟩
  rintro v2 w2 ⟨rfl, rfl⟩
  refine ⟨?_, I, J, rfl, rfl, h⟩
  by_cases e : gz_rg x 0 9 = true
  · obtain ⟨c, rfl, hc⟩ := zto (b := 9) (by decide) (gz_rg_t.mp e)
    rw [if_pos e, if_pos e, znn (by omega), hA.2.2.1 c (by omega)]
  · rw [if_neg e, if_neg e]
theorem p_wind (x : Int32) (h : gv_Inv I J) : gw_E V 69 (0, [(0, .ref 3), (1, .int x)], [], gS n I J, 0, 0) (gv_Qi V n (I 0) 120 [.int x]) := by
  obtain ⟨W, N, h0, L, bc, l, nx, sz, ssz, no, ho, hd, kb, ⟨h1, h2, hA, e1, e2⟩, -, -, -, -, hT, hJ⟩ := id h
  have hW8 := h1.1.2.1
  refine gs_mono ?_ (c_wind x h1.1.1 hW8)
  rintro v w ⟨rfl, rfl⟩
  refine ⟨_, I, J, rfl, rfl, rfl, gs_mono ?_ (m_wind x h2.1.1 hW8)⟩
  rintro v2 w2 ⟨rfl, rfl⟩
  refine ⟨?_, I, J, rfl, rfl, h⟩
  by_cases e : gz_lt x W = true
  · obtain ⟨c, hc, rfl⟩ := gz_lt_nat e (by omega)
    rw [if_pos e, if_pos e, znn (by omega), show I 127 c = gz_M I 1 c from rfl, show I 7 c = gz_S I 1 c from rfl, hA.2.1 c hc]
  · rw [if_neg e, if_neg e]
theorem gz_L0 (I : Nat → Nat → Int32) : gz_L I 0 = I 133 := by
  funext c
  show I 133 (13 * 0 + c) = _
  rw [Nat.mul_zero, Nat.zero_add]
theorem p_nose (x u : Int32) (h : gv_Inv I J) : gw_E V 70 (0, [(0, .ref 3), (1, .int x), (2, .int u)], [], gS n I J, 0, 0) (gv_Qi V n (I 0) 123 [.int x, .int u]) := by
  obtain ⟨W, N, h0, L, bc, l, nx, sz, ssz, no, ho, hd, kb, ⟨h1, h2, hA, e1, e2⟩, -, -, -, -, hT, hJ⟩ := id h
  refine gs_mono ?_ (c_nosep x u h1.1)
  rintro v w ⟨rfl, rfl⟩
  refine ⟨_, I, J, rfl, rfl, rfl, gs_mono ?_ (m_nosep x u h2.1)⟩
  rintro v2 w2 ⟨rfl, rfl⟩
  refine ⟨?_, I, J, rfl, rfl, h⟩
  rw [gz_L0, av_nz hA]
theorem p_pennies (h : gv_Inv I J) : gw_E V 71 (0, [(0, .ref 3)], [], gS n I J, 0, 0) (gv_Qi V n (I 0) 124 []) := by
  obtain ⟨W, N, h0, L, bc, l, nx, sz, ssz, no, ho, hd, kb, ⟨h1, h2, hA, e1, e2⟩, -, -, -, -, hT, hJ⟩ := id h
  refine gs_mono ?_ c_pennies
  rintro v w ⟨rfl, rfl⟩
  refine ⟨_, I, J, rfl, rfl, rfl, gs_mono ?_ m_pennies⟩
  rintro v2 w2 ⟨rfl, rfl⟩
  exact ⟨by rw [e2], I, J, rfl, rfl, h⟩
theorem p_count (u : Int32) (h : gv_Inv I J) : gw_E V 92 (0, [(0, .ref 3), (1, .int u)], [], gS n I J, 0, 0) (gv_Qi V n (I 0) 162 [.int u]) := by
  obtain ⟨W, N, h0, L, bc, l, nx, sz, ssz, no, ho, hd, kb, ⟨h1, h2, hA, e1, e2⟩, hx, ha, -, hs, hT, hJ⟩ := id h
  refine gs_mono ?_ (c_count u h1.1)
  rintro v w ⟨rfl, rfl⟩
  refine ⟨_, I, J, rfl, rfl, rfl, gs_mono ?_ (m_count u h2.1)⟩
  rintro v2 w2 ⟨rfl, rfl⟩
  refine ⟨?_, I, J, rfl, rfl, h⟩
  rw [gz_L0, ← av_who hA, ← e1, hx.1, hx.2.1, ha.2.2.2.1, ha.2.2.2.2.1, hs.1.1, hs.2.1, h1.2.1, h2.2.1, show I 6 3 = Int32.ofNat W from h1.1.1, show I 126 3 = Int32.ofNat W from h2.1.1, show I 6 4 = Int32.ofNat N from h1.1.2.2.1, show I 126 4 = Int32.ofNat N from h2.1.2.2.1, h1.2.2.2.1, h2.2.2.2.1, show I 126 1 = I 6 1 from hA.1.1.symm, show I 126 2 = I 6 2 from hA.1.2.1.symm]
end
