/-! ===== the law: its loop, its start ===== -/
theorem gl_end {n i : Nat} (hn : n ≤ 320) (hi : i ≤ 325) : (Int32.ofNat n - 5 < Int32.ofNat i) ↔ n < i + 5 := by
  rw [Int32.lt_iff_toInt_lt, Int32.toInt_sub, Int32.toInt_ofNat_of_lt (by omega), Int32.toInt_ofNat_of_lt (by omega), show (5 : Int32).toInt = 5 from rfl, Int.bmod_eq_of_le (by omega) (by omega)]
  omega
theorem gl_31 (x : Int32) : ∃ k, k < 32 ∧ x &&& 31 = Int32.ofNat k := by
  refine ⟨(x &&& 31).toBitVec.toNat, ?_, ?_⟩
  · rw [Int32.toBitVec_and, BitVec.toNat_and]
    exact Nat.lt_of_le_of_lt Nat.and_le_right (by decide)
  · apply Int32.toBitVec_inj.mp
    show _ = BitVec.ofNat 32 _
    rw [BitVec.ofNat_toNat, BitVec.setWidth_eq]
section
variable {V : gw_V} {n cu su : Nat}
theorem l_loop (hn : n ≤ 320) (hc : cu ≤ gm_c 164) (hu : su ≤ gm_s 164) : ∀ (m i : Nat) (I : Nat → Nat → Int32) (J : Nat → Nat → Int64), n < i + 5 + m → i ≤ n + 5 → gv_Inv I J → gw_E V 164 (18, [(0, .ref 0), (1, .ref 3), (2, .ref 126), (3, .int (Int32.ofNat i))], [], gS n I J, cu, su) (fun v _ => v = some (.int 1)) := by
  intro m
  induction m with
  | zero =>
    intro i I J hm hi h
    refine gs_iload_n (pc := 18) (gd gk_164_0 10 rfl) rfl ?_
    refine gs_aload_n (pc := 19) (gd gk_164_0 11 rfl) rfl ?_
    refine gs_alen (v := Int32.ofNat n) (pc := 20) (gd gk_164_0 12 rfl) rfl (by decide) rfl ?_
    refine gs_iconst (pc := 21) (gd gk_164_0 13 rfl) (5) rfl ?_
    refine gs_isub (pc := 22) (gd gk_164_0 14 rfl) ?_
    refine gs_icmp_gt (pc := 23) (gd gk_164_0 15 rfl) (fun _ => ?_) (fun q => absurd ((gl_end hn (by omega)).mpr (by omega)) q)
    refine gs_iconst (pc := 1006) (gd gk_164_15 32 rfl) (1) rfl ?_
    exact gs_iret (pc := 1007) (gd gk_164_15 33 rfl) rfl rfl hc hu rfl
  | succ m ih =>
    intro i I J hm hi h
    refine gs_iload_n (pc := 18) (gd gk_164_0 10 rfl) rfl ?_
    refine gs_aload_n (pc := 19) (gd gk_164_0 11 rfl) rfl ?_
    refine gs_alen (v := Int32.ofNat n) (pc := 20) (gd gk_164_0 12 rfl) rfl (by decide) rfl ?_
    refine gs_iconst (pc := 21) (gd gk_164_0 13 rfl) (5) rfl ?_
    refine gs_isub (pc := 22) (gd gk_164_0 14 rfl) ?_
    refine gs_icmp_gt (pc := 23) (gd gk_164_0 15 rfl) (fun _ => ?_) (fun q => ?_)
    · refine gs_iconst (pc := 1006) (gd gk_164_15 32 rfl) (1) rfl ?_
      exact gs_iret (pc := 1007) (gd gk_164_15 33 rfl) rfl rfl hc hu rfl
    have hi5 : i + 5 ≤ n := by
      rw [gl_end hn (by omega)] at q
      omega
    have next : ∀ I2 J2, I2 0 = I 0 → gv_Inv I2 J2 → gw_E V 164 (1000, [(0, .ref 0), (1, .ref 3), (2, .ref 126), (3, .int (Int32.ofNat i))], [], gS n I2 J2, cu, su) (fun v _ => v = some (.int 1)) := by
      intro I2 J2 _ h2
      refine gs_iinc (ls2 := fun v => [(0, .ref 0), (1, .ref 3), (2, .ref 126), (3, .int v)]) (pc := 1000) (gd gk_164_15 30 rfl) rfl (by rw [gL_164]; decide) (fun _ => rfl) (5) rfl (fun v hv => ?_)
      obtain rfl : v = Int32.ofNat (i + 5) := hv.trans (by rw [Int32.ofNat_add]; rfl)
      refine gs_goto (pc := 1003) (gd gk_164_15 31 rfl) ?_
      exact ih (i + 5) I2 J2 (by omega) (by omega) h2
    refine gs_aload_n (pc := 26) (gd gk_164_0 16 rfl) rfl ?_
    refine gs_iload_n (pc := 27) (gd gk_164_0 17 rfl) rfl ?_
    refine gs_ialoadK i n (pc := 28) (gd gk_164_0 18 rfl) (Or.inr ⟨rfl, by decide⟩) rfl (by omega) rfl (by omega) ?_
    refine gs_bipush (pc := 29) (gd gk_164_0 19 rfl) (31) rfl ?_
    refine gs_iand (pc := 31) (gd gk_164_0 20 rfl) ?_
    obtain ⟨k, hk, e⟩ := gl_31 (I 0 i)
    rw [e]
    have hk : k = 0 ∨ k = 1 ∨ k = 2 ∨ k = 3 ∨ k = 4 ∨ k = 5 ∨ k = 6 ∨ k = 7 ∨ k = 8 ∨ k = 9 ∨ k = 10 ∨ k = 11 ∨ k = 12 ∨ k = 13 ∨ k = 14 ∨ k = 15 ∨ k = 16 ∨ k = 17 ∨ k = 18 ∨ k = 19 ∨ k = 20 ∨ k = 21 ∨ k = 22 ∨ k = 23 ∨ k = 24 ∨ k = 25 ∨ k = 26 ∨ k = 27 ∨ k = 28 ∨ (k = 29 ∨ k = 30 ∨ k = 31) := by omega
    rcases hk with rfl | rfl | rfl | rfl | rfl | rfl | rfl | rfl | rfl | rfl | rfl | rfl | rfl | rfl | rfl | rfl | rfl | rfl | rfl | rfl | rfl | rfl | rfl | rfl | rfl | rfl | rfl | rfl | rfl | hk
    · exact gs_tblIn (off := 132) (pc := 32) 164 (gd gk_164_0 21 rfl) (by decide) (by decide) rfl (by decide) (l_write hn hi5 hc hu h next)
    · exact gs_tblIn (off := 155) (pc := 32) 187 (gd gk_164_0 21 rfl) (by decide) (by decide) rfl (by decide) (l_wipe hn hi5 hc hu h next)
    · exact gs_tblIn (off := 168) (pc := 32) 200 (gd gk_164_0 21 rfl) (by decide) (by decide) rfl (by decide) (l_fault hn hi5 hc hu h next)
    · exact gs_tblIn (off := 181) (pc := 32) 213 (gd gk_164_0 21 rfl) (by decide) (by decide) rfl (by decide) (l_street hn hi5 hc hu h next)
    · exact gs_tblIn (off := 194) (pc := 32) 226 (gd gk_164_0 21 rfl) (by decide) (by decide) rfl (by decide) (l_smell hn hi5 hc hu h next)
    · exact gs_tblIn (off := 217) (pc := 32) 249 (gd gk_164_0 21 rfl) (by decide) (by decide) rfl (by decide) (l_wind hn hi5 hc hu h next)
    · exact gs_tblIn (off := 240) (pc := 32) 272 (gd gk_164_0 21 rfl) (by decide) (by decide) rfl (by decide) (l_nose hn hi5 hc hu h next)
    · exact gs_tblIn (off := 273) (pc := 32) 305 (gd gk_164_0 21 rfl) (by decide) (by decide) rfl (by decide) (l_pennies hn hi5 hc hu h next)
    · exact gs_tblIn (off := 286) (pc := 32) 318 (gd gk_164_0 21 rfl) (by decide) (by decide) rfl (by decide) (l_hour hn hi5 hc hu h next)
    · exact gs_tblIn (off := 325) (pc := 32) 357 (gd gk_164_0 21 rfl) (by decide) (by decide) rfl (by decide) (l_chimney hn hi5 hc hu h next)
    · exact gs_tblIn (off := 348) (pc := 32) 380 (gd gk_164_0 21 rfl) (by decide) (by decide) rfl (by decide) (l_undo hn hi5 hc hu h next)
    · exact gs_tblIn (off := 361) (pc := 32) 393 (gd gk_164_0 21 rfl) (by decide) (by decide) rfl (by decide) (l_by hn hi5 hc hu h next)
    · exact gs_tblIn (off := 384) (pc := 32) 416 (gd gk_164_0 21 rfl) (by decide) (by decide) rfl (by decide) (l_best hn hi5 hc hu h next)
    · exact gs_tblIn (off := 423) (pc := 32) 455 (gd gk_164_0 21 rfl) (by decide) (by decide) rfl (by decide) (l_bestChimney hn hi5 hc hu h next)
    · exact gs_tblIn (off := 436) (pc := 32) 468 (gd gk_164_0 21 rfl) (by decide) (by decide) rfl (by decide) (l_share hn hi5 hc hu h next)
    · exact gs_tblIn (off := 485) (pc := 32) 517 (gd gk_164_0 21 rfl) (by decide) (by decide) rfl (by decide) (l_judge hn hi5 hc hu h next)
    · exact gs_tblIn (off := 518) (pc := 32) 550 (gd gk_164_0 21 rfl) (by decide) (by decide) rfl (by decide) (l_had hn hi5 hc hu h next)
    · exact gs_tblIn (off := 541) (pc := 32) 573 (gd gk_164_0 21 rfl) (by decide) (by decide) rfl (by decide) (l_only hn hi5 hc hu h next)
    · exact gs_tblIn (off := 564) (pc := 32) 596 (gd gk_164_0 21 rfl) (by decide) (by decide) rfl (by decide) (l_see hn hi5 hc hu h next)
    · exact gs_tblIn (off := 623) (pc := 32) 655 (gd gk_164_0 21 rfl) (by decide) (by decide) rfl (by decide) (l_unsee hn hi5 hc hu h next)
    · exact gs_tblIn (off := 636) (pc := 32) 668 (gd gk_164_0 21 rfl) (by decide) (by decide) rfl (by decide) (l_when hn hi5 hc hu h next)
    · exact gs_tblIn (off := 659) (pc := 32) 691 (gd gk_164_0 21 rfl) (by decide) (by decide) rfl (by decide) (l_mean hn hi5 hc hu h next)
    · exact gs_tblIn (off := 719) (pc := 32) 751 (gd gk_164_0 21 rfl) (by decide) (by decide) rfl (by decide) (l_fair hn hi5 hc hu h next)
    · exact gs_tblIn (off := 789) (pc := 32) 821 (gd gk_164_0 21 rfl) (by decide) (by decide) rfl (by decide) (l_bakers hn hi5 hc hu h next)
    · exact gs_tblIn (off := 822) (pc := 32) 854 (gd gk_164_0 21 rfl) (by decide) (by decide) rfl (by decide) (l_seed hn hi5 hc hu h next)
    · exact gs_tblIn (off := 876) (pc := 32) 908 (gd gk_164_0 21 rfl) (by decide) (by decide) rfl (by decide) (l_mornings hn hi5 hc hu h next)
    · exact gs_tblIn (off := 899) (pc := 32) 931 (gd gk_164_0 21 rfl) (by decide) (by decide) rfl (by decide) (l_keep hn hi5 hc hu h next)
    · exact gs_tblIn (off := 922) (pc := 32) 954 (gd gk_164_0 21 rfl) (by decide) (by decide) rfl (by decide) (l_again hn hi5 hc hu h next)
    · exact gs_tblIn (off := 945) (pc := 32) 977 (gd gk_164_0 21 rfl) (by decide) (by decide) rfl (by decide) (l_count hn hi5 hc hu h next)
    · exact gs_tblOut (pc := 32) 1000 (gd gk_164_0 21 rfl) (.inr (by rcases hk with rfl | rfl | rfl <;> decide)) (by decide) (next I J rfl h)
/-- what holds of class and reference at their start -/
theorem gv_first {I : Nat → Nat → Int32} (hI : gI0 I 3) (h1 : ∀ k, k < 7 → I 1 k = Int32.ofNat (gz_fc k)) (h2 : ∀ b, b < 9 → I 2 b = Int32.ofNat (10 ^ b)) : gv_Inv (gw_u (gw_u I 6 1 1) 126 1 1) gJ0 := by
  have o : ∀ p, 3 ≤ p → p ≠ 6 → p ≠ 126 → gw_u (gw_u I 6 1 1) 126 1 1 p = fun _ => 0 := fun p q0 q1 q2 => by rw [gw_u_o q2, gw_u_o q1]; exact hI p q0
  have o6 : ∀ q, q ≠ 1 → gw_u (gw_u I 6 1 1) 126 1 1 6 q = 0 := fun q hq => by
    rw [gw_u_o (by omega)]
    unfold gw_u
    rw [if_neg (fun h => hq h.2), hI 6 (by omega)]
  have o7 : ∀ q, q ≠ 1 → gw_u (gw_u I 6 1 1) 126 1 1 126 q = 0 := fun q hq => by
    unfold gw_u
    rw [if_neg (fun h => hq h.2), if_neg (fun h => by omega), hI 126 (by omega)]
  have a1 : gw_u (gw_u I 6 1 1) 126 1 1 6 1 = 1 := by rw [gw_u_o (by omega)]; unfold gw_u; rw [if_pos ⟨rfl, rfl⟩]
  have a2 : gw_u (gw_u I 6 1 1) 126 1 1 126 1 = 1 := by unfold gw_u; rw [if_pos ⟨rfl, rfl⟩]
  have b1 : gw_u (gw_u I 6 1 1) 126 1 1 1 = I 1 := by rw [gw_u_o (by omega), gw_u_o (by omega)]
  have b2 : gw_u (gw_u I 6 1 1) 126 1 1 2 = I 2 := by rw [gw_u_o (by omega), gw_u_o (by omega)]
  generalize gw_u (gw_u I 6 1 1) 126 1 1 = K at o o6 o7 a1 a2 b1 b2
  have z : ∀ p q, 3 ≤ p → p ≠ 6 → p ≠ 126 → K p q = 0 := fun p q q0 q1 q2 => by rw [o p q0 q1 q2]
  have okS : gq_ok (gz_S K) 0 0 := by
    refine ⟨o6 3 (by omega), by omega, o6 4 (by omega), by omega, ?_, ?_, ?_, fun h hh => absurd hh (Nat.not_lt_zero _), fun m hm => absurd hm (Nat.not_lt_zero _)⟩
    · show 0 ≤ K 6 0 ∧ K 6 0 ≤ 9
      rw [o6 0 (by omega)]; decide
    · show 1 ≤ K 6 1 ∧ K 6 1 ≤ 9
      rw [a1]; decide
    · show 0 ≤ K 6 2 ∧ K 6 2 ≤ 9
      rw [o6 2 (by omega)]; decide
  have okM : gq_ok (gz_M K) 0 0 := by
    refine ⟨o7 3 (by omega), by omega, o7 4 (by omega), by omega, ?_, ?_, ?_, fun h hh => absurd hh (Nat.not_lt_zero _), fun m hm => absurd hm (Nat.not_lt_zero _)⟩
    · show 0 ≤ K 126 0 ∧ K 126 0 ≤ 9
      rw [o7 0 (by omega)]; decide
    · show 1 ≤ K 126 1 ∧ K 126 1 ≤ 9
      rw [a2]; decide
    · show 0 ≤ K 126 2 ∧ K 126 2 ≤ 9
      rw [o7 2 (by omega)]; decide
  refine ⟨0, 0, 0, 0, 0, 0, 0, 0, 0, fun _ => 0, fun _ => 0, fun _ => false, fun _ => false, ⟨⟨okS, z 12 3 (by omega) (by omega) (by omega), rfl, o6 0 (by omega), by omega, z 78 0 (by omega) (by omega) (by omega), z 79 0 (by omega) (by omega) (by omega), fun m hm => absurd hm (Nat.not_lt_zero _)⟩, ⟨okM, z 133 12 (by omega) (by omega) (by omega), rfl, o7 0 (by omega), by omega⟩, ⟨⟨?_, ?_, fun m hm => absurd hm (Nat.not_lt_zero _)⟩, fun h hh => absurd hh (Nat.not_lt_zero _), fun c _ => by rw [z 13 c (by omega) (by omega) (by omega), z 133 c (by omega) (by omega) (by omega)], okS, okM⟩, by rw [z 12 1 (by omega) (by omega) (by omega), z 133 10 (by omega) (by omega) (by omega)], by rw [z 12 2 (by omega) (by omega) (by omega), z 133 11 (by omega) (by omega) (by omega)]⟩, ⟨z 4 1 (by omega) (by omega) (by omega), o7 15 (by omega), by omega, fun j hj => absurd hj (Nat.not_lt_zero _)⟩, ⟨z 16 1 (by omega) (by omega) (by omega), o7 20 (by omega), by omega, z 16 2 (by omega) (by omega) (by omega), o7 19 (by omega), by omega, fun j hj => absurd hj (Nat.not_lt_zero _)⟩, fun s hs => ⟨z 48 s (by omega) (by omega) (by omega), z 143 s (by omega) (by omega) (by omega), fun k => by cases k⟩, ⟨⟨z 53 3 (by omega) (by omega) (by omega), by omega, fun k hk => absurd hk (Nat.not_lt_zero _)⟩, ⟨o7 25 (by omega), by omega, fun k hk => absurd hk (Nat.not_lt_zero _)⟩⟩, ⟨fun k hk => by rw [b1]; exact h1 k hk, fun b hb => by rw [b2]; exact h2 b hb, fun m _ => z 69 m (by omega) (by omega) (by omega)⟩, rfl⟩
  · show K 6 1 = K 126 1
    rw [a1, a2]
  · show K 6 2 = K 126 2
    rw [o6 2 (by omega), o7 2 (by omega)]
theorem l_law {I : Nat → Nat → Int32} (hn : n ≤ 320) (hI : gI0 I 3) (h1 : ∀ k, k < 7 → I 1 k = Int32.ofNat (gz_fc k)) (h2 : ∀ b, b < 9 → I 2 b = Int32.ofNat (10 ^ b)) : gw_E V 164 (0, [(0, .ref 0)], [], (gp n 3, I, gJ0, gs_r), 0, 0) (fun v _ => v = some (.int 1)) := by
  have hI4 : gI0 I 4 := fun p hp => hI p (by omega)
  have hI6 : gI0 (gw_u I 6 1 1) 126 := fun p hp => by rw [gw_u_o (by omega)]; exact hI p (by omega)
  refine gk_new (sh2 := gp n 4) 3 3 (pc := 0) (gd gk_164_0 0 rfl) rfl rfl (by decide) (by decide) (Nat.le_of_ble_eq_true rfl) (Nat.le_of_ble_eq_true rfl) hI (by decide) ?_
  rw [gG_0]
  refine gs_dup (pc := 3) (gd gk_164_0 1 rfl) rfl ?_
  refine gs_callI (as := []) (pc := 4) (gd gk_164_0 2 rfl) (by decide) rfl rfl rfl (Nat.le_of_ble_eq_true rfl) ⟨(Nat.le_of_ble_eq_true rfl), (Nat.le_of_ble_eq_true rfl), (Nat.le_of_ble_eq_true rfl), (Nat.le_of_ble_eq_true rfl)⟩ (Nat.le_of_ble_eq_true rfl) (k_Bill hI4) (fun r_0 w_0 q_0 => ?_)
  obtain ⟨rfl, rfl⟩ := q_0
  refine gs_astore_n (ls2 := fun v => [(0, .ref 0), (1, .ref v)]) (pc := 7) (gd gk_164_0 3 rfl) (by rw [gL_164]; decide) (fun _ => rfl) (fun v hv => ?_)
  subst hv
  refine gs_F1 (F2 := gs_r) 3 (fun a ha => by funext q; exact (gG_11 a q (.inl ha)).symm) (fun q => ?_) (fun _ => ?_) ?_
  · have q : (10 : Nat) = 14 ∨ (10 : Nat) = 15 := q
    omega
  · change ∀ j, j < gb_K 10 → gb_s 10 j = 2 → _
    decide
  refine gk_new (sh2 := gp n 127) 126 126 (pc := 8) (gd gk_164_0 4 rfl) rfl rfl (by decide) (by decide) (Nat.le_of_ble_eq_true rfl) (Nat.le_of_ble_eq_true rfl) hI6 (by decide) ?_
  refine gs_dup (pc := 11) (gd gk_164_0 5 rfl) rfl ?_
  refine gs_callI (as := []) (pc := 12) (gd gk_164_0 6 rfl) (by decide) rfl rfl rfl (Nat.le_of_ble_eq_true rfl) ⟨(Nat.le_of_ble_eq_true rfl), (Nat.le_of_ble_eq_true rfl), (Nat.le_of_ble_eq_true rfl), (Nat.le_of_ble_eq_true rfl)⟩ (Nat.le_of_ble_eq_true rfl) (k_Model hI6) (fun r_1 w_1 q_1 => ?_)
  obtain ⟨rfl, rfl⟩ := q_1
  refine gs_astore_n (ls2 := fun v => [(0, .ref 0), (1, .ref 3), (2, .ref v)]) (pc := 15) (gd gk_164_0 7 rfl) (by rw [gL_164]; decide) (fun _ => rfl) (fun v hv => ?_)
  subst hv
  refine gs_iconst (pc := 16) (gd gk_164_0 8 rfl) (0) rfl ?_
  refine gs_istore_n (ls2 := fun v => [(0, .ref 0), (1, .ref 3), (2, .ref 126), (3, .int v)]) (pc := 17) (gd gk_164_0 9 rfl) (by rw [gL_164]; decide) (fun _ => rfl) (fun v hv => ?_)
  subst hv
  exact l_loop hn (Nat.le_of_ble_eq_true rfl) (Nat.le_of_ble_eq_true rfl) (n + 1) 0 _ _ (by omega) (by omega) (gv_first hI h1 h2)
end
