/-! ===== the class's Walk: an hour passes; a plan is followed ===== -/
def gq_st (σ : Nat → Nat → Int32) (wd : Int32) (bk : Bool) (bc : Nat) (ch : Int32) (sm : Nat → Int32) (c : Nat) : Int32 := if gz_in ch (Int32.ofNat c) then 0 else gq_dr sm wd c + (if bk && c == bc then σ 0 1 else 0)
def gq_wd (σ : Nat → Nat → Int32) (tr : Int32) (h : Nat) : Int32 := if gz_in tr (Int32.ofNat h) then -σ 1 h else σ 1 h
/-- row g + 1 is row g an hour on: by a wind, baked or not -/
def gq_rel (I : Nat → Nat → Int32) (N g : Nat) (wd : Int32) (bk : Bool) (bc : Nat) (ch : Int32) : Prop :=
  (∀ c, c < 10 → I (59 + (g + 1)) c = gq_st (gz_S I) wd bk bc ch (I (59 + g)) c) ∧ (∀ m, m < N → I (69 + (g + 1)) m = I (69 + g) m + gq_due (gz_S I) m (gq_has (gz_S I) (I (59 + (g + 1))) m) (decide (wd = 1)))
  ∧ I 78 (g + 1) = I 78 g + gq_hc (gz_S I) (I (59 + (g + 1))) bk (decide (wd = 1)) (fun _ => true) N ∧ I 79 (g + 1) = I 79 g ||| gq_who (gz_S I) (I (59 + (g + 1))) N ∧ I 80 (g + 1) = gq_who (gz_S I) (I (59 + (g + 1))) N
/-- what an hour's passing may change -/
def gq_pf (I I2 : Nat → Nat → Int32) (g : Nat) : Prop := (∀ p, p ≠ 59 + (g + 1) → p ≠ 69 + (g + 1) → p ≠ 78 → p ≠ 79 → p ≠ 80 → I2 p = I p) ∧ ∀ p q, q ≠ g + 1 → p = 78 ∨ p = 79 ∨ p = 80 → I2 p q = I p q
theorem c_pass {V : gw_V} {n W N : Nat} {I : Nat → Nat → Int32} {J : Nat → Nat → Int64} (g h0 bc : Nat) (hg : g < 8) (hok : gq_ok (gz_S I) W N) (hh : I 57 11 = Int32.ofNat h0) (hhg : h0 + g < W) (hbc : I 57 7 = Int32.ofNat bc) (hbc9 : bc < 10) : gw_E V 54 (0, [(0, .ref 57), (1, .int (Int32.ofNat g))], [], gS n I J, 0, 0)
    (fun v w' => v = none ∧ ∃ I2, w' = gS n I2 J ∧ gq_rel I2 N g (gq_wd (gz_S I) (I 57 9) (h0 + g)) (gz_in (I 57 8) (Int32.ofNat (h0 + g))) bc (I 57 6) ∧ gq_pf I I2 g) := by
  obtain ⟨-, hW8, -, hN6, -, -, -, -, -⟩ := id hok
  generalize hbk : gz_in (I 57 8) (Int32.ofNat (h0 + g)) = bk
  generalize hwd : gq_wd (gz_S I) (I 57 9) (h0 + g) = wd
  have join95 : ∀ I1, (∀ c, c < 10 → I1 (59 + (g + 1)) c = gq_dr (I (59 + g)) wd c + (if bk && c == bc then gz_S I 0 1 else 0)) → (∀ p, p ≠ 59 + (g + 1) → I1 p = I p) → gw_E V 54 (95, [(0, .ref 57), (1, .int (Int32.ofNat g)), (2, .int (Int32.ofNat (h0 + g))), (3, .int wd), (4, .int (gz_b bk)), (5, .ref (59 + (g + 1)))], [], gS n I1 J, 0, 0)
      (fun v w' => v = none ∧ ∃ I2, w' = gS n I2 J ∧ gq_rel I2 N g wd bk bc (I 57 6) ∧ gq_pf I I2 g) := by
    intro I1 h1 h2
    have fin : ∀ (ea : Bool), ea = decide (wd = 1) → ∀ I3, (∀ c, c < 10 → I3 (59 + (g + 1)) c = if gz_in (I 57 6) (Int32.ofNat c) then 0 else I1 (59 + (g + 1)) c) → (∀ p, p ≠ 59 + (g + 1) → I3 p = I1 p) → ∀ I4, ((∀ m, m < N → I4 (69 + (g + 1)) m = I3 (69 + g) m + gq_due (gz_S I3) m (gq_has (gz_S I3) (I3 (59 + (g + 1))) m) ea) ∧ I4 78 (g + 1) = I3 78 g + gq_hc (gz_S I3) (I3 (59 + (g + 1))) bk ea (fun _ => true) N ∧ I4 79 (g + 1) = I3 79 g ||| gq_who (gz_S I3) (I3 (59 + (g + 1))) N ∧ I4 80 (g + 1) = gq_who (gz_S I3) (I3 (59 + (g + 1))) N
      ∧ (∀ p, p ≠ 69 + (g + 1) → p ≠ 78 → p ≠ 79 → p ≠ 80 → I4 p = I3 p) ∧ ∀ p q, q ≠ g + 1 → p = 78 ∨ p = 79 ∨ p = 80 → I4 p q = I3 p q) → gq_rel I4 N g wd bk bc (I 57 6) ∧ gq_pf I I4 g := by
      intro ea hea I3 a1 a2 I4 ⟨b1, b2, b3, b4, b5, b6⟩
      have s3 : gz_S I3 = gz_S I := gz_S_eq (fun p q1 q2 => by rw [a2 p (by omega), h2 p (by omega)])
      have s4 : gz_S I4 = gz_S I := gz_S_eq (fun p q1 q2 => by rw [b5 p (by omega) (by omega) (by omega) (by omega), a2 p (by omega), h2 p (by omega)])
      rw [s3, hea] at b1 b2
      rw [s3] at b3 b4
      have r1 : I4 (59 + (g + 1)) = I3 (59 + (g + 1)) := b5 _ (by omega) (by omega) (by omega) (by omega)
      have r0 : I4 (59 + g) = I (59 + g) := by rw [b5 _ (by omega) (by omega) (by omega) (by omega), a2 _ (by omega), h2 _ (by omega)]
      refine ⟨⟨fun c hc => ?_, fun m hm => ?_, ?_, ?_, ?_⟩, fun p q1 q2 q3 q4 q5 => ?_, fun p q q1 q2 => ?_⟩
      · rw [r1, r0, s4, a1 c hc, h1 c hc]; rfl
      · rw [s4, r1, b1 m hm, b5 (69 + g) (by omega) (by omega) (by omega) (by omega)]
      · rw [s4, r1, b2, b6 78 g (by omega) (Or.inl rfl)]
      · rw [s4, r1, b3, b6 79 g (by omega) (Or.inr (Or.inl rfl))]
      · rw [s4, r1, b4]
      · rw [b5 p q2 q3 q4 q5, a2 p q1, h2 p q1]
      · rw [b6 p q q1 q2, a2 p (by omega), h2 p (by omega)]
    have hok3 : ∀ I3, (∀ p, p ≠ 59 + (g + 1) → I3 p = I1 p) → gq_ok (gz_S I3) W N := fun I3 a2 => by rw [gz_S_eq (I := I) (fun p q1 q2 => by rw [a2 p (by omega), h2 p (by omega)])]; exact hok
    refine gs_aload_n (pc := 95) (gd gk_54 54 rfl) rfl ?_
    refine gs_aload (pc := 96) (gd gk_54 55 rfl) rfl ?_
    refine gs_callV (as := [.ref (59 + (g + 1))]) (pc := 98) (gd gk_54 56 rfl) (by decide) rfl (by decide) rfl rfl (Nat.le_of_ble_eq_true rfl) gq_54_56 (Nat.le_of_ble_eq_true rfl) (c_empty (59 + (g + 1)) (I 57 6) (by rw [h2 57 (by omega)]) (gt59 (by omega)).1 (gt59 (by omega)).2) (fun r_98 w_98 q_98 => ?_)
    obtain ⟨rfl, I_e, rfl, he1, he2⟩ := q_98
    refine gs_aload_n (pc := 101) (gd gk_54 57 rfl) rfl ?_
    refine gs_iload_n (pc := 102) (gd gk_54 58 rfl) rfl ?_
    refine gs_iload (pc := 103) (gd gk_54 59 rfl) rfl ?_
    refine gs_iload_n (pc := 105) (gd gk_54 60 rfl) rfl ?_
    refine gs_iconst (pc := 106) (gd gk_54 61 rfl) (1) rfl ?_
    refine gs_icmp_ne (pc := 107) (gd gk_54 62 rfl) (fun c107 => ?_) (fun c107 => ?_)
    · refine gs_iconst (pc := 114) (gd gk_54 65 rfl) (0) rfl ?_
      refine gs_callV (as := [.int (Int32.ofNat g), .int (gz_b bk), .int (0)]) (pc := 115) (gd gk_54 66 rfl) (by decide) rfl (by decide) rfl rfl (Nat.le_of_ble_eq_true rfl) gq_54_57 (Nat.le_of_ble_eq_true rfl) (c_settle (W := W) (N := N) g hg bk false (hok3 I_e he2)) (fun r_115 w_115 q_115 => ?_)
      obtain ⟨rfl, I_s, rfl, hs⟩ := q_115
      -- end 1: return, pc 118, locals [(0, .ref (57)), (1, .int (Int32.ofNat g)), (2, .int (Int32.ofNat (h0 + g))), (3, .int (wd)), (4, .int (gz_b bk)), (5, .ref (59 + (g + 1)))]
      exact gs_ret (pc := 118) (gd gk_54 67 rfl) rfl (Nat.zero_le _) (Nat.zero_le _) (⟨rfl, I_s, rfl, fin false (decide_eq_false c107).symm I_e he1 he2 I_s hs⟩)
    · refine gs_iconst (pc := 110) (gd gk_54 63 rfl) (1) rfl ?_
      refine gs_goto (pc := 111) (gd gk_54 64 rfl) ?_
      refine gs_callV (as := [.int (Int32.ofNat g), .int (gz_b bk), .int (1)]) (pc := 115) (gd gk_54 66 rfl) (by decide) rfl (by decide) rfl rfl (Nat.le_of_ble_eq_true rfl) gq_54_57 (Nat.le_of_ble_eq_true rfl) (c_settle (W := W) (N := N) g hg bk true (hok3 I_e he2)) (fun r_115 w_115 q_115 => ?_)
      obtain ⟨rfl, I_s, rfl, hs⟩ := q_115
      -- end 2: return, pc 118, locals [(0, .ref (57)), (1, .int (Int32.ofNat g)), (2, .int (Int32.ofNat (h0 + g))), (3, .int (wd)), (4, .int (gz_b bk)), (5, .ref (59 + (g + 1)))]
      exact gs_ret (pc := 118) (gd gk_54 67 rfl) rfl (Nat.zero_le _) (Nat.zero_le _) (⟨rfl, I_s, rfl, fin true (decide_eq_true c107).symm I_e he1 he2 I_s hs⟩)
  have join40 : gw_E V 54 (40, [(0, .ref 57), (1, .int (Int32.ofNat g)), (2, .int (Int32.ofNat (h0 + g)))], [.int wd], gS n I J, 0, 0) (fun v w' => v = none ∧ ∃ I2, w' = gS n I2 J ∧ gq_rel I2 N g wd bk bc (I 57 6) ∧ gq_pf I I2 g) := by
    refine gs_istore_n (ls2 := fun v => [(0, .ref (57)), (1, .int (Int32.ofNat g)), (2, .int (Int32.ofNat (h0 + g))), (3, .int (v))]) (pc := 40) (gd gk_54 22 rfl) (by rw [gL_54]; decide) (fun _ => rfl) (fun v3_1 hv3_1 => ?_)
    refine gs_aload_n (pc := 41) (gd gk_54 23 rfl) rfl ?_
    refine gs_getI (pc := 42) (gd gk_54 24 rfl) rfl rfl ?_
    refine gs_iload_n (pc := 45) (gd gk_54 25 rfl) rfl ?_
    refine gs_callS (as := [.int ((I 57 8)), .int (Int32.ofNat (h0 + g))]) (pc := 46) (gd gk_54 26 rfl) (by decide) rfl rfl (Nat.le_of_ble_eq_true rfl) gq_54_96 (Nat.le_of_ble_eq_true rfl) (c_in ((I 57 8)) (Int32.ofNat (h0 + g))) (fun r_46 w_46 q_46 => ?_)
    obtain ⟨rfl, rfl⟩ := q_46
    refine gs_istore (ls2 := fun v => [(0, .ref (57)), (1, .int (Int32.ofNat g)), (2, .int (Int32.ofNat (h0 + g))), (3, .int (v3_1)), (4, .int (v))]) (pc := 49) (gd gk_54 27 rfl) (by rw [gL_54]; decide) (fun _ => rfl) (fun v4_1 hv4_1 => ?_)
    subst hv3_1
    rw [hbk] at hv4_1
    subst hv4_1
    refine gs_aload_n (pc := 51) (gd gk_54 28 rfl) rfl ?_
    refine gs_getR (r := 58) (pc := 52) (gd gk_54 29 rfl) rfl rfl rfl (by decide) ?_
    refine gs_iload_n (pc := 55) (gd gk_54 30 rfl) rfl ?_
    refine gs_iconst (pc := 56) (gd gk_54 31 rfl) (1) rfl ?_
    refine gs_iadd (pc := 57) (gd gk_54 32 rfl) ?_
    refine gs_aaloadK (r := 59 + (g + 1)) ((g + 1)) (9) (pc := 58) (gd gk_54 33 rfl) (Or.inr rfl) rfl (by decide) (by first | rfl | (simp only [Int32.ofNat_add, Int32.ofNat_mul]; rfl) | (simp only [Int32.ofNat_add, Int32.ofNat_mul])) (by omega) rfl (by omega) ?_
    refine gs_astore (ls2 := fun v => [(0, .ref (57)), (1, .int (Int32.ofNat g)), (2, .int (Int32.ofNat (h0 + g))), (3, .int (v3_1)), (4, .int (gz_b bk)), (5, .ref (v))]) (pc := 59) (gd gk_54 34 rfl) (by rw [gL_54]; decide) (fun _ => rfl) (fun o5_1 ho5_1 => ?_)
    subst ho5_1
    refine gs_aload_n (pc := 61) (gd gk_54 35 rfl) rfl ?_
    refine gs_getR (r := 58) (pc := 62) (gd gk_54 36 rfl) rfl rfl rfl (by decide) ?_
    refine gs_iload_n (pc := 65) (gd gk_54 37 rfl) rfl ?_
    refine gs_aaloadK (r := 59 + g) (g) (9) (pc := 66) (gd gk_54 38 rfl) (Or.inr rfl) rfl (by decide) (by first | rfl | (simp only [Int32.ofNat_add, Int32.ofNat_mul]; rfl) | (simp only [Int32.ofNat_add, Int32.ofNat_mul])) (by omega) rfl (by omega) ?_
    refine gs_aload (pc := 67) (gd gk_54 39 rfl) rfl ?_
    refine gs_iload_n (pc := 69) (gd gk_54 40 rfl) rfl ?_
    refine gs_callS (as := [.ref (59 + g), .ref (59 + (g + 1)), .int (v3_1)]) (pc := 70) (gd gk_54 41 rfl) (by decide) rfl rfl (Nat.le_of_ble_eq_true rfl) gq_54_55 (Nat.le_of_ble_eq_true rfl) (c_drift (59 + g) (59 + (g + 1)) v3_1 (by omega) (gt59 (by omega)).1 (gt59 (by omega)).2 (gt59 (by omega)).1 (gt59 (by omega)).2) (fun r_70 w_70 q_70 => ?_)
    obtain ⟨rfl, I_d, rfl, hd1, hd2⟩ := q_70
    refine gs_iload (pc := 73) (gd gk_54 42 rfl) rfl ?_
    refine gs_if_eq (pc := 75) (gd gk_54 43 rfl) (fun c75 => ?_) (fun c75 => ?_)
    · -- end 1: stop, pc 95, locals [(0, .ref (57)), (1, .int (Int32.ofNat g)), (2, .int (Int32.ofNat (h0 + g))), (3, .int (v3_1)), (4, .int (gz_b bk)), (5, .ref (59 + (g + 1)))]
      have hb0 := gz_b_eq.mp c75
      exact join95 I_d (fun c hc => by rw [hd1 c hc, hb0]; simp) hd2
    · refine gs_aload (pc := 78) (gd gk_54 44 rfl) rfl ?_
      refine gs_aload_n (pc := 80) (gd gk_54 45 rfl) rfl ?_
      refine gs_getI (pc := 81) (gd gk_54 46 rfl) rfl rfl ?_
      refine gs_as (Int32.ofNat bc) (by rw [hd2 57 (by omega)]; exact hbc) ?_
      refine gs_dup2 (pc := 84) (gd gk_54 47 rfl) rfl rfl ?_
      refine gs_ialoadK (bc) (10) (pc := 85) (gd gk_54 48 rfl) (Or.inl (gt59 (by omega)).1) (gt59 (by omega)).2 (by decide) (by first | rfl | (simp only [Int32.ofNat_add, Int32.ofNat_mul]; rfl) | (simp only [Int32.ofNat_add, Int32.ofNat_mul])) (by omega) ?_
      refine gs_aload_n (pc := 86) (gd gk_54 49 rfl) rfl ?_
      refine gs_getR (r := 6) (pc := 87) (gd gk_54 50 rfl) rfl rfl rfl (by decide) ?_
      refine gs_getI (pc := 90) (gd gk_54 51 rfl) rfl rfl ?_
      refine gs_iadd (pc := 93) (gd gk_54 52 rfl) ?_
      refine gs_iastoreK (bc) (10) gs_sl (pc := 94) (gd gk_54 53 rfl) (gt59 (by omega)).1 (gt59 (by omega)).2 (by decide) (by first | rfl | (simp only [Int32.ofNat_add, Int32.ofNat_mul]; rfl) | (simp only [Int32.ofNat_add, Int32.ofNat_mul])) (by omega) (fun I_1 hI_1 => ?_)
      -- end 2: stop, pc 95, locals [(0, .ref (57)), (1, .int (Int32.ofNat g)), (2, .int (Int32.ofNat (h0 + g))), (3, .int (v3_1)), (4, .int (gz_b bk)), (5, .ref (59 + (g + 1)))]
      have hb1 := gz_b_ne.mp c75
      refine join95 I_1 (fun c hc => ?_) (fun p hp => by rw [hI_1, gw_u_o hp, hd2 p hp])
      rw [hI_1, gw_u_s, hb1]
      unfold upd
      by_cases q : c = bc
      · subst q; rw [if_pos rfl, hd1 _ hc, hd2 6 (by omega)]; simp [gz_S]
      · rw [if_neg q, hd1 c hc]; simp [q]
  refine gs_aload_n (pc := 0) (gd gk_54 0 rfl) rfl ?_
  refine gs_getI (pc := 1) (gd gk_54 1 rfl) rfl rfl ?_
  refine gs_as (Int32.ofNat h0) (hh) ?_
  refine gs_iload_n (pc := 4) (gd gk_54 2 rfl) rfl ?_
  refine gs_iadd (pc := 5) (gd gk_54 3 rfl) ?_
  refine gs_istore_n (ls2 := fun v => [(0, .ref (57)), (1, .int (Int32.ofNat g)), (2, .int (v))]) (pc := 6) (gd gk_54 4 rfl) (by rw [gL_54]; decide) (fun _ => rfl) (fun v2_1 hv2_1 => ?_)
  obtain rfl : v2_1 = Int32.ofNat ((h0 + g)) := hv2_1.trans (by first | rfl | (simp only [Int32.ofNat_add, Int32.ofNat_mul]; rfl) | (simp only [Int32.ofNat_add, Int32.ofNat_mul]))
  refine gs_aload_n (pc := 7) (gd gk_54 5 rfl) rfl ?_
  refine gs_getI (pc := 8) (gd gk_54 6 rfl) rfl rfl ?_
  refine gs_iload_n (pc := 11) (gd gk_54 7 rfl) rfl ?_
  refine gs_callS (as := [.int ((I 57 9)), .int (Int32.ofNat ((h0 + g)))]) (pc := 12) (gd gk_54 8 rfl) (by decide) rfl rfl (Nat.le_of_ble_eq_true rfl) gq_54_96 (Nat.le_of_ble_eq_true rfl) (c_in ((I 57 9)) (Int32.ofNat ((h0 + g)))) (fun r_12 w_12 q_12 => ?_)
  obtain ⟨rfl, rfl⟩ := q_12
  refine gs_if_eq (pc := 15) (gd gk_54 9 rfl) (fun c15 => ?_) (fun c15 => ?_)
  · refine gs_aload_n (pc := 31) (gd gk_54 17 rfl) rfl ?_
    refine gs_getR (r := 6) (pc := 32) (gd gk_54 18 rfl) rfl rfl rfl (by decide) ?_
    refine gs_getR (r := 7) (pc := 35) (gd gk_54 19 rfl) rfl rfl rfl (by decide) ?_
    refine gs_iload_n (pc := 38) (gd gk_54 20 rfl) rfl ?_
    refine gs_ialoadK (((h0 + g))) (8) (pc := 39) (gd gk_54 21 rfl) (Or.inl rfl) rfl (by decide) (by first | rfl | (simp only [Int32.ofNat_add, Int32.ofNat_mul]; rfl) | (simp only [Int32.ofNat_add, Int32.ofNat_mul])) (by omega) ?_
    -- end 1: stop, pc 40, locals [(0, .ref (57)), (1, .int (Int32.ofNat g)), (2, .int (Int32.ofNat ((h0 + g))))]
    have e9 : I 7 (h0 + g) = wd := by rw [← hwd]; unfold gq_wd; rw [gz_b_eq.mp c15]; rfl
    rw [e9]; exact join40
  · refine gs_aload_n (pc := 18) (gd gk_54 10 rfl) rfl ?_
    refine gs_getR (r := 6) (pc := 19) (gd gk_54 11 rfl) rfl rfl rfl (by decide) ?_
    refine gs_getR (r := 7) (pc := 22) (gd gk_54 12 rfl) rfl rfl rfl (by decide) ?_
    refine gs_iload_n (pc := 25) (gd gk_54 13 rfl) rfl ?_
    refine gs_ialoadK (((h0 + g))) (8) (pc := 26) (gd gk_54 14 rfl) (Or.inl rfl) rfl (by decide) (by first | rfl | (simp only [Int32.ofNat_add, Int32.ofNat_mul]; rfl) | (simp only [Int32.ofNat_add, Int32.ofNat_mul])) (by omega) ?_
    refine gs_ineg (pc := 27) (gd gk_54 15 rfl) ?_
    refine gs_goto (pc := 28) (gd gk_54 16 rfl) ?_
    -- end 2: stop, pc 40, locals [(0, .ref (57)), (1, .int (Int32.ofNat g)), (2, .int (Int32.ofNat ((h0 + g))))]
    have e9 : -(I 7 (h0 + g)) = wd := by rw [← hwd]; unfold gq_wd; rw [gz_b_ne.mp c15]; rfl
    rw [e9]; exact join40
theorem gq_rel_eq {I I2 : Nat → Nat → Int32} {N g : Nat} {wd : Int32} {bk : Bool} {bc : Nat} {ch : Int32} (h : gq_rel I N g wd bk bc ch) (hS : gz_S I2 = gz_S I) (h1 : I2 (59 + g) = I (59 + g)) (h2 : I2 (59 + (g + 1)) = I (59 + (g + 1))) (h3 : I2 (69 + g) = I (69 + g)) (h4 : I2 (69 + (g + 1)) = I (69 + (g + 1))) (h5 : ∀ p, p = 78 ∨ p = 79 ∨ p = 80 → I2 p g = I p g ∧ I2 p (g + 1) = I p (g + 1)) : gq_rel I2 N g wd bk bc ch := by
  obtain ⟨a1, a2, a3, a4, a5⟩ := h
  refine ⟨?_, ?_, ?_, ?_, ?_⟩
  · rw [hS, h1, h2]; exact a1
  · rw [hS, h2, h3, h4]; exact a2
  · rw [hS, h2, (h5 78 (Or.inl rfl)).1, (h5 78 (Or.inl rfl)).2]; exact a3
  · rw [hS, h2, (h5 79 (Or.inr (Or.inl rfl))).1, (h5 79 (Or.inr (Or.inl rfl))).2]; exact a4
  · rw [hS, h2, (h5 80 (Or.inr (Or.inr rfl))).2]; exact a5
/-- rows 0 to g are those of a plan and of turns, from hour h0 on -/
def gq_rows (I : Nat → Nat → Int32) (N h0 : Nat) (pl tr : Int32) (bc : Nat) (ch : Int32) (g : Nat) : Prop := ∀ q, q < g → gq_rel I N q (gq_wd (gz_S I) tr (h0 + q)) (gz_in pl (Int32.ofNat (h0 + q))) bc ch
/-- the cells that a walk may change: its rows behind the first, its numbers 8, 9, 10 -/
def gq_wf (I I2 : Nat → Nat → Int32) : Prop := (∀ p, ¬ (60 ≤ p ∧ p ≤ 67) → ¬ (70 ≤ p ∧ p ≤ 80) → p ≠ 57 → I2 p = I p) ∧ (∀ p, p = 78 ∨ p = 79 ∨ p = 80 → I2 p 0 = I p 0) ∧ ∀ q, q ≠ 8 → q ≠ 9 → q ≠ 10 → I2 57 q = I 57 q
theorem gq_wf_tr {I I2 I3 : Nat → Nat → Int32} (h : gq_wf I I2) (h' : gq_wf I2 I3) : gq_wf I I3 := ⟨fun p a b c => (h'.1 p a b c).trans (h.1 p a b c), fun p a => (h'.2.1 p a).trans (h.2.1 p a), fun q a b c => (h'.2.2 q a b c).trans (h.2.2 q a b c)⟩
theorem gq_wf_S {I I2 : Nat → Nat → Int32} (h : gq_wf I I2) : gz_S I2 = gz_S I := gz_S_eq (fun p h1 h2 => h.1 p (by omega) (by omega) (by omega))
theorem gq_wf_rf (I : Nat → Nat → Int32) : gq_wf I I := ⟨fun _ _ _ _ => rfl, fun _ _ => rfl, fun _ _ _ _ => rfl⟩
theorem c_take {V : gw_V} {n W N : Nat} {I : Nat → Nat → Int32} {J : Nat → Nat → Int64} (pl tr : Int32) (h0 bc L fo : Nat) (hok : gq_ok (gz_S I) W N) (hh : I 57 11 = Int32.ofNat h0) (hL : I 57 12 = Int32.ofNat L) (hW : h0 + L = W) (hbc : I 57 7 = Int32.ofNat bc) (hbc9 : bc < 10) (hfo : I 57 10 = Int32.ofNat fo) (hfoL : fo ≤ L) (hro : gq_rows I N h0 (I 57 8) (I 57 9) bc (I 57 6) fo) : gw_E V 53 (0, [(0, .ref 57), (1, .int pl), (2, .int tr)], [], gS n I J, 0, 0)
    (fun v w' => v = none ∧ ∃ I2, w' = gS n I2 J ∧ gq_wf I I2 ∧ I2 57 8 = pl ∧ I2 57 9 = tr ∧ I2 57 10 = Int32.ofNat L ∧ gq_rows I2 N h0 pl tr bc (I 57 6) L) := by
  obtain ⟨-, hW8, -, hN6, -, -, -, -, -⟩ := id hok
  have lp2 : ∀ (m k : Nat), m + k = L → ∀ (x y : Int32) (I1 : Nat → Nat → Int32), gq_wf I I1 → I1 57 8 = pl → I1 57 9 = tr → gq_rows I1 N h0 pl tr bc (I 57 6) k → gw_E V 53 (60, [(0, .ref 57), (1, .int pl), (2, .int tr), (3, .int x), (4, .int y), (5, .int (Int32.ofNat k))], [], gS n I1 J, 0, 0)
      (fun v w' => v = none ∧ ∃ I2, w' = gS n I2 J ∧ gq_wf I I2 ∧ I2 57 8 = pl ∧ I2 57 9 = tr ∧ I2 57 10 = Int32.ofNat L ∧ gq_rows I2 N h0 pl tr bc (I 57 6) L) := by
    intro m
    induction m with
    | zero =>
      intro k hk x y I1 h1 h2 h3 h4
      obtain rfl : k = L := by omega
      have hL1 : I1 57 12 = Int32.ofNat k := by rw [h1.2.2 12 (by omega) (by omega) (by omega)]; exact hL
      refine gs_iload (pc := 60) (gd gk_53 33 rfl) rfl ?_
      refine gs_aload_n (pc := 62) (gd gk_53 34 rfl) rfl ?_
      refine gs_getI (pc := 63) (gd gk_53 35 rfl) rfl rfl ?_
      refine gs_as (Int32.ofNat k) (hL1) ?_
      refine gs_icmp_ge (pc := 66) (gd gk_53 36 rfl) (fun c66 => ?_) (fun c66 => ?_)
      · replace c66 : k ≤ k := (zle (k := k) (m := k) (by omega) (by omega)).mp c66
        refine gs_aload_n (pc := 81) (gd gk_53 42 rfl) rfl ?_
        refine gs_aload_n (pc := 82) (gd gk_53 43 rfl) rfl ?_
        refine gs_getI (pc := 83) (gd gk_53 44 rfl) rfl rfl ?_
        refine gs_as (Int32.ofNat k) (hL1) ?_
        refine gs_putI (pc := 86) (gd gk_53 45 rfl) rfl rfl rfl rfl (fun I_1 hI_1 => ?_)
        -- end 1: return, pc 89, locals [(0, .ref (57)), (1, .int (pl)), (2, .int (tr)), (3, .int (x)), (4, .int (y)), (5, .int (Int32.ofNat k))]
        have hw : gq_wf I1 I_1 := ⟨fun p _ _ q3 => by rw [hI_1, gw_u_o q3], fun p q1 => by rw [hI_1, gw_u_o (by omega)], fun q q1 q2 q3 => by rw [hI_1, gw_u_s]; simp [upd, q3]⟩
        exact gs_ret (pc := 89) (gd gk_53 46 rfl) rfl (Nat.zero_le _) (Nat.zero_le _) (⟨rfl, I_1, rfl, gq_wf_tr h1 hw, by rw [hI_1, gw_u_s]; simp [upd, h2], by rw [hI_1, gw_u_s]; simp [upd, h3], by rw [hI_1, gw_u_s]; simp [upd], fun q hq => by
          rw [gq_wf_S hw]
          exact gq_rel_eq (h4 q hq) (gq_wf_S hw) (by rw [hI_1, gw_u_o (by omega)]) (by rw [hI_1, gw_u_o (by omega)]) (by rw [hI_1, gw_u_o (by omega)]) (by rw [hI_1, gw_u_o (by omega)]) (fun p hp => by rw [hI_1, gw_u_o (by omega)]; exact ⟨rfl, rfl⟩)⟩)
      · replace c66 : ¬ (k ≤ k) := fun q9 => c66 ((zle (k := k) (m := k) (by omega) (by omega)).mpr q9)
        -- end 2: stop, pc 69, locals [(0, .ref (57)), (1, .int (pl)), (2, .int (tr)), (3, .int (x)), (4, .int (y)), (5, .int (Int32.ofNat k))]
        exact absurd (Nat.le_refl k) c66
    | succ m ih =>
      intro k hk x y I1 h1 h2 h3 h4
      have hL1 : I1 57 12 = Int32.ofNat L := by rw [h1.2.2 12 (by omega) (by omega) (by omega)]; exact hL
      have hok1 : gq_ok (gz_S I1) W N := by rw [gq_wf_S h1]; exact hok
      refine gs_iload (pc := 60) (gd gk_53 33 rfl) rfl ?_
      refine gs_aload_n (pc := 62) (gd gk_53 34 rfl) rfl ?_
      refine gs_getI (pc := 63) (gd gk_53 35 rfl) rfl rfl ?_
      refine gs_as (Int32.ofNat L) (hL1) ?_
      refine gs_icmp_ge (pc := 66) (gd gk_53 36 rfl) (fun c66 => ?_) (fun c66 => ?_)
      · replace c66 : L ≤ k := (zle (k := L) (m := k) (by omega) (by omega)).mp c66
        refine gs_aload_n (pc := 81) (gd gk_53 42 rfl) rfl ?_
        refine gs_aload_n (pc := 82) (gd gk_53 43 rfl) rfl ?_
        refine gs_getI (pc := 83) (gd gk_53 44 rfl) rfl rfl ?_
        refine gs_as (Int32.ofNat L) (hL1) ?_
        refine gs_putI (pc := 86) (gd gk_53 45 rfl) rfl rfl rfl rfl (fun I_1 hI_1 => ?_)
        -- end 1: return, pc 89, locals [(0, .ref (57)), (1, .int (pl)), (2, .int (tr)), (3, .int (x)), (4, .int (y)), (5, .int (Int32.ofNat k))]
        exact absurd c66 (by omega)
      · replace c66 : ¬ (L ≤ k) := fun q9 => c66 ((zle (k := L) (m := k) (by omega) (by omega)).mpr q9)
        refine gs_aload_n (pc := 69) (gd gk_53 37 rfl) rfl ?_
        refine gs_iload (pc := 70) (gd gk_53 38 rfl) rfl ?_
        refine gs_callV (as := [.int (Int32.ofNat k)]) (pc := 72) (gd gk_53 39 rfl) (by decide) rfl (by decide) rfl rfl (Nat.le_of_ble_eq_true rfl) gq_53_54 (Nat.le_of_ble_eq_true rfl) (c_pass (W := W) (N := N) k h0 bc (by omega) hok1 (by rw [h1.2.2 11 (by omega) (by omega) (by omega)]; exact hh) (by omega) (by rw [h1.2.2 7 (by omega) (by omega) (by omega)]; exact hbc) hbc9) (fun r_72 w_72 q_72 => ?_)
        obtain ⟨rfl, I_p, rfl, hp1, hp2⟩ := q_72
        refine gs_iinc (ls2 := fun v => [(0, .ref (57)), (1, .int (pl)), (2, .int (tr)), (3, .int (x)), (4, .int (y)), (5, .int (v))]) (pc := 75) (gd gk_53 40 rfl) rfl (by rw [gL_53]; decide) (fun _ => rfl) (1) rfl (fun v5_1 hv5_1 => ?_)
        obtain rfl : v5_1 = Int32.ofNat (k + 1) := hv5_1.trans (by first | rfl | (simp only [Int32.ofNat_add, Int32.ofNat_mul]; rfl) | (simp only [Int32.ofNat_add, Int32.ofNat_mul]))
        refine gs_goto (pc := 78) (gd gk_53 41 rfl) ?_
        -- end 2: stop, pc 60, locals [(0, .ref (57)), (1, .int (pl)), (2, .int (tr)), (3, .int (x)), (4, .int (y)), (5, .int (Int32.ofNat (k + 1)))]
        have hw : gq_wf I1 I_p := ⟨fun p q1 q2 q3 => hp2.1 p (by omega) (by omega) (by omega) (by omega) (by omega), fun p q1 => hp2.2 p 0 (by omega) q1, fun q _ _ _ => by rw [hp2.1 57 (by omega) (by omega) (by omega) (by omega) (by omega)]⟩
        have h57 : I_p 57 = I1 57 := hp2.1 57 (by omega) (by omega) (by omega) (by omega) (by omega)
        refine ih (k + 1) (by omega) x y I_p (gq_wf_tr h1 hw) (by rw [h57]; exact h2) (by rw [h57]; exact h3) (fun q hq => ?_)
        rw [gq_wf_S hw]
        by_cases e : q = k
        · subst e
          rw [h2, h3, h1.2.2 6 (by omega) (by omega) (by omega)] at hp1
          exact hp1
        · exact gq_rel_eq (h4 q (by omega)) (gq_wf_S hw) (hp2.1 _ (by omega) (by omega) (by omega) (by omega) (by omega)) (hp2.1 _ (by omega) (by omega) (by omega) (by omega) (by omega)) (hp2.1 _ (by omega) (by omega) (by omega) (by omega) (by omega)) (hp2.1 _ (by omega) (by omega) (by omega) (by omega) (by omega)) (fun p hp => ⟨hp2.2 p q (by omega) hp, hp2.2 p (q + 1) (by omega) hp⟩)
  have join46 : ∀ k, k ≤ fo → (∀ q, q < k → gz_in ((pl ^^^ I 57 8) ||| (tr ^^^ I 57 9)) (Int32.ofNat (h0 + q)) = false) → gw_E V 53 (46, [(0, .ref 57), (1, .int pl), (2, .int tr), (3, .int ((pl ^^^ I 57 8) ||| (tr ^^^ I 57 9))), (4, .int (Int32.ofNat k))], [], gS n I J, 0, 0)
      (fun v w' => v = none ∧ ∃ I2, w' = gS n I2 J ∧ gq_wf I I2 ∧ I2 57 8 = pl ∧ I2 57 9 = tr ∧ I2 57 10 = Int32.ofNat L ∧ gq_rows I2 N h0 pl tr bc (I 57 6) L) := by
    intro k hk hs
    refine gs_aload_n (pc := 46) (gd gk_53 25 rfl) rfl ?_
    refine gs_iload_n (pc := 47) (gd gk_53 26 rfl) rfl ?_
    refine gs_putI (pc := 48) (gd gk_53 27 rfl) rfl rfl rfl rfl (fun I_1 hI_1 => ?_)
    refine gs_aload_n (pc := 51) (gd gk_53 28 rfl) rfl ?_
    refine gs_iload_n (pc := 52) (gd gk_53 29 rfl) rfl ?_
    refine gs_putI (pc := 53) (gd gk_53 30 rfl) rfl rfl rfl rfl (fun I_2 hI_2 => ?_)
    refine gs_iload (pc := 56) (gd gk_53 31 rfl) rfl ?_
    refine gs_istore (ls2 := fun v => [(0, .ref (57)), (1, .int (pl)), (2, .int (tr)), (3, .int (((pl ^^^ (I 57 8)) ||| (tr ^^^ (I 57 9))))), (4, .int (Int32.ofNat k)), (5, .int (v))]) (pc := 58) (gd gk_53 32 rfl) (by rw [gL_53]; decide) (fun _ => rfl) (fun v5_1 hv5_1 => ?_)
    obtain rfl : v5_1 = Int32.ofNat k := hv5_1.trans (by first | rfl | (simp only [Int32.ofNat_add, Int32.ofNat_mul]; rfl) | (simp only [Int32.ofNat_add, Int32.ofNat_mul]))
    -- end 1: stop, pc 60, locals [(0, .ref (57)), (1, .int (pl)), (2, .int (tr)), (3, .int (((pl ^^^ (I 57 8)) ||| (tr ^^^ (I 57 9))))), (4, .int (Int32.ofNat k)), (5, .int (Int32.ofNat k))]
    have hw : gq_wf I I_2 := ⟨fun p _ _ q3 => by rw [hI_2, gw_u_o q3, hI_1, gw_u_o q3], fun p q1 => by rw [hI_2, gw_u_o (by omega), hI_1, gw_u_o (by omega)], fun q q1 q2 q3 => by rw [hI_2, gw_u_s, hI_1, gw_u_s]; simp [upd, q1, q2]⟩
    refine lp2 (L - k) k (by omega) _ _ I_2 hw (by rw [hI_2, gw_u_s, hI_1, gw_u_s]; simp [upd]) (by rw [hI_2, gw_u_s]; simp [upd]) (fun q hq => ?_)
    have e1 := hs q hq
    rw [gz_or _ _ (by omega), gz_xor _ _ (by omega), gz_xor _ _ (by omega)] at e1
    have e2 : gz_in pl (Int32.ofNat (h0 + q)) = gz_in (I 57 8) (Int32.ofNat (h0 + q)) ∧ gz_in tr (Int32.ofNat (h0 + q)) = gz_in (I 57 9) (Int32.ofNat (h0 + q)) := by revert e1; cases gz_in pl (Int32.ofNat (h0 + q)) <;> cases gz_in (I 57 8) (Int32.ofNat (h0 + q)) <;> cases gz_in tr (Int32.ofNat (h0 + q)) <;> cases gz_in (I 57 9) (Int32.ofNat (h0 + q)) <;> decide
    rw [gq_wf_S hw, e2.1, show gq_wd (gz_S I) tr (h0 + q) = gq_wd (gz_S I) (I 57 9) (h0 + q) by unfold gq_wd; rw [e2.2]]
    exact gq_rel_eq (hro q (by omega)) (gq_wf_S hw) (by rw [hI_2, gw_u_o (by omega), hI_1, gw_u_o (by omega)]) (by rw [hI_2, gw_u_o (by omega), hI_1, gw_u_o (by omega)]) (by rw [hI_2, gw_u_o (by omega), hI_1, gw_u_o (by omega)]) (by rw [hI_2, gw_u_o (by omega), hI_1, gw_u_o (by omega)]) (fun p hp => by rw [hI_2, gw_u_o (by omega), hI_1, gw_u_o (by omega)]; exact ⟨rfl, rfl⟩)
  have lp1 : ∀ (m k : Nat), m + k = fo → (∀ q, q < k → gz_in ((pl ^^^ I 57 8) ||| (tr ^^^ I 57 9)) (Int32.ofNat (h0 + q)) = false) → gw_E V 53 (17, [(0, .ref 57), (1, .int pl), (2, .int tr), (3, .int ((pl ^^^ I 57 8) ||| (tr ^^^ I 57 9))), (4, .int (Int32.ofNat k))], [], gS n I J, 0, 0)
      (fun v w' => v = none ∧ ∃ I2, w' = gS n I2 J ∧ gq_wf I I2 ∧ I2 57 8 = pl ∧ I2 57 9 = tr ∧ I2 57 10 = Int32.ofNat L ∧ gq_rows I2 N h0 pl tr bc (I 57 6) L) := by
    intro m
    induction m with
    | zero =>
      intro k hk hs
      obtain rfl : k = fo := by omega
      refine gs_iload (pc := 17) (gd gk_53 12 rfl) rfl ?_
      refine gs_aload_n (pc := 19) (gd gk_53 13 rfl) rfl ?_
      refine gs_getI (pc := 20) (gd gk_53 14 rfl) rfl rfl ?_
      refine gs_as (Int32.ofNat k) (hfo) ?_
      refine gs_icmp_ge (pc := 23) (gd gk_53 15 rfl) (fun c23 => ?_) (fun c23 => ?_)
      · replace c23 : k ≤ k := (zle (k := k) (m := k) (by omega) (by omega)).mp c23
        -- end 1: stop, pc 46, locals [(0, .ref (57)), (1, .int (pl)), (2, .int (tr)), (3, .int (((pl ^^^ (I 57 8)) ||| (tr ^^^ (I 57 9))))), (4, .int (Int32.ofNat k))]
        exact join46 k (Nat.le_refl k) hs
      · replace c23 : ¬ (k ≤ k) := fun q9 => c23 ((zle (k := k) (m := k) (by omega) (by omega)).mpr q9)
        -- end 2: stop, pc 26, locals [(0, .ref (57)), (1, .int (pl)), (2, .int (tr)), (3, .int (((pl ^^^ (I 57 8)) ||| (tr ^^^ (I 57 9))))), (4, .int (Int32.ofNat k))]
        exact absurd (Nat.le_refl k) c23
    | succ m ih =>
      intro k hk hs
      refine gs_iload (pc := 17) (gd gk_53 12 rfl) rfl ?_
      refine gs_aload_n (pc := 19) (gd gk_53 13 rfl) rfl ?_
      refine gs_getI (pc := 20) (gd gk_53 14 rfl) rfl rfl ?_
      refine gs_as (Int32.ofNat fo) (hfo) ?_
      refine gs_icmp_ge (pc := 23) (gd gk_53 15 rfl) (fun c23 => ?_) (fun c23 => ?_)
      · replace c23 : fo ≤ k := (zle (k := fo) (m := k) (by omega) (by omega)).mp c23
        -- end 1: stop, pc 46, locals [(0, .ref (57)), (1, .int (pl)), (2, .int (tr)), (3, .int (((pl ^^^ (I 57 8)) ||| (tr ^^^ (I 57 9))))), (4, .int (Int32.ofNat k))]
        exact absurd c23 (by omega)
      · replace c23 : ¬ (fo ≤ k) := fun q9 => c23 ((zle (k := fo) (m := k) (by omega) (by omega)).mpr q9)
        refine gs_iload_n (pc := 26) (gd gk_53 16 rfl) rfl ?_
        refine gs_aload_n (pc := 27) (gd gk_53 17 rfl) rfl ?_
        refine gs_getI (pc := 28) (gd gk_53 18 rfl) rfl rfl ?_
        refine gs_as (Int32.ofNat h0) (hh) ?_
        refine gs_iload (pc := 31) (gd gk_53 19 rfl) rfl ?_
        refine gs_iadd (pc := 33) (gd gk_53 20 rfl) ?_
        refine gs_callS (as := [.int (((pl ^^^ (I 57 8)) ||| (tr ^^^ (I 57 9)))), .int ((Int32.ofNat h0 + Int32.ofNat k))]) (pc := 34) (gd gk_53 21 rfl) (by decide) rfl rfl (Nat.le_of_ble_eq_true rfl) gq_53_96 (Nat.le_of_ble_eq_true rfl) (c_in ((pl ^^^ I 57 8) ||| (tr ^^^ I 57 9)) (Int32.ofNat h0 + Int32.ofNat k)) (fun r_34 w_34 q_34 => ?_)
        rw [← Int32.ofNat_add] at q_34
        obtain ⟨rfl, rfl⟩ := q_34
        refine gs_if_ne (pc := 37) (gd gk_53 22 rfl) (fun c37 => ?_) (fun c37 => ?_)
        · -- end 2: stop, pc 46, locals [(0, .ref (57)), (1, .int (pl)), (2, .int (tr)), (3, .int (((pl ^^^ (I 57 8)) ||| (tr ^^^ (I 57 9))))), (4, .int (Int32.ofNat k))]
          exact join46 k (by omega) hs
        · refine gs_iinc (ls2 := fun v => [(0, .ref (57)), (1, .int (pl)), (2, .int (tr)), (3, .int (((pl ^^^ (I 57 8)) ||| (tr ^^^ (I 57 9))))), (4, .int (v))]) (pc := 40) (gd gk_53 23 rfl) rfl (by rw [gL_53]; decide) (fun _ => rfl) (1) rfl (fun v4_1 hv4_1 => ?_)
          obtain rfl : v4_1 = Int32.ofNat (k + 1) := hv4_1.trans (by first | rfl | (simp only [Int32.ofNat_add, Int32.ofNat_mul]; rfl) | (simp only [Int32.ofNat_add, Int32.ofNat_mul]))
          refine gs_goto (pc := 43) (gd gk_53 24 rfl) ?_
          -- end 3: stop, pc 17, locals [(0, .ref (57)), (1, .int (pl)), (2, .int (tr)), (3, .int (((pl ^^^ (I 57 8)) ||| (tr ^^^ (I 57 9))))), (4, .int (Int32.ofNat (k + 1)))]
          refine ih (k + 1) (by omega) (fun q hq => ?_)
          by_cases e : q = k
          · subst e; exact gz_b_eq.mp c37
          · exact hs q (by omega)
  refine gs_iload_n (pc := 0) (gd gk_53 0 rfl) rfl ?_
  refine gs_aload_n (pc := 1) (gd gk_53 1 rfl) rfl ?_
  refine gs_getI (pc := 2) (gd gk_53 2 rfl) rfl rfl ?_
  refine gs_ixor (pc := 5) (gd gk_53 3 rfl) ?_
  refine gs_iload_n (pc := 6) (gd gk_53 4 rfl) rfl ?_
  refine gs_aload_n (pc := 7) (gd gk_53 5 rfl) rfl ?_
  refine gs_getI (pc := 8) (gd gk_53 6 rfl) rfl rfl ?_
  refine gs_ixor (pc := 11) (gd gk_53 7 rfl) ?_
  refine gs_ior (pc := 12) (gd gk_53 8 rfl) ?_
  refine gs_istore_n (ls2 := fun v => [(0, .ref (57)), (1, .int (pl)), (2, .int (tr)), (3, .int (v))]) (pc := 13) (gd gk_53 9 rfl) (by rw [gL_53]; decide) (fun _ => rfl) (fun v3_1 hv3_1 => ?_)
  refine gs_iconst (pc := 14) (gd gk_53 10 rfl) (0) rfl ?_
  refine gs_istore (ls2 := fun v => [(0, .ref (57)), (1, .int (pl)), (2, .int (tr)), (3, .int (v3_1)), (4, .int (v))]) (pc := 15) (gd gk_53 11 rfl) (by rw [gL_53]; decide) (fun _ => rfl) (fun v4_1 hv4_1 => ?_)
  obtain rfl : v4_1 = Int32.ofNat 0 := hv4_1.trans (by first | rfl | (simp only [Int32.ofNat_add, Int32.ofNat_mul]; rfl) | (simp only [Int32.ofNat_add, Int32.ofNat_mul]))
  -- end 1: stop, pc 17, locals [(0, .ref (57)), (1, .int (pl)), (2, .int (tr)), (3, .int (v3_1)), (4, .int (Int32.ofNat 0))]
  subst hv3_1
  exact lp1 fo 0 (by omega) (fun q hq => absurd hq (Nat.not_lt_zero _))
