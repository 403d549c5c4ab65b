/-! ===== the reference: when ===== -/
def gq_or (ag : Nat → Bool) : Nat → Int32
  | 0 => 0
  | k + 1 => if ag k then gq_or ag k ||| Int32.ofNat k else gq_or ag k
theorem gz_dm (M s q : Int32) : (M &&& (s ^^^ -1)) &&& (q ^^^ -1) = M &&& ((s ||| q) ^^^ -1) := by
  have e : ∀ a : Int32, a ^^^ -1 = ~~~a := fun a => by
    apply Int32.toBitVec_inj.mp
    show a.toBitVec ^^^ (-1 : Int32).toBitVec = ~~~a.toBitVec
    rw [show (-1 : Int32).toBitVec = BitVec.allOnes 32 from rfl, BitVec.xor_allOnes]
  rw [e, e, e]
  apply Int32.toBitVec_inj.mp
  show (M.toBitVec &&& ~~~s.toBitVec) &&& ~~~q.toBitVec = M.toBitVec &&& ~~~(s.toBitVec ||| q.toBitVec)
  rw [BitVec.not_or, BitVec.and_assoc]
theorem gq_no_or (ag : Nat → Bool) (M : Int32) : ∀ k, gq_no ag (fun k => k) M k = M &&& (gq_or ag k ^^^ -1)
  | 0 => by
    show M = M &&& ((0 : Int32) ^^^ -1)
    rw [Int32.zero_xor]
    exact (Int32.and_neg_one).symm
  | k + 1 => by
    unfold gq_no gq_or
    cases h : ag k with
    | true => show gq_no ag (fun k => k) M k &&& (Int32.ofNat k ^^^ -1) = M &&& ((gq_or ag k ||| Int32.ofNat k) ^^^ -1); rw [gq_no_or ag M k, gz_dm]
    | false => exact gq_no_or ag M k
theorem gq_or_t {ag : Nat → Bool} {k : Nat} (h : ag k = true) : gq_or ag (k + 1) = gq_or ag k ||| Int32.ofNat k := by show (if ag k then _ else _) = _; rw [h]; rfl
theorem gq_or_f {ag : Nat → Bool} {k : Nat} (h : ag k = false) : gq_or ag (k + 1) = gq_or ag k := by show (if ag k then _ else _) = _; rw [h]; rfl
section
variable {V : gw_V} {n W N h0 L bc : Nat} {I : Nat → Nat → Int32} {J : Nat → Nat → Int64}
theorem gm_si_q {I I2 : Nat → Nat → Int32} {sz : Nat} {no ho : Nat → Nat} {hd : Nat → Bool} (h : gm_si I sz no ho hd) (e : gm_qf I I2) : gm_si I2 sz no ho hd := by
  have o : ∀ p, 138 ≤ p → p ≤ 140 → I2 p = I p := fun p a b => e.1 p (by omega) (by omega) (by omega) (by omega) (by omega) (by omega) (by omega) (by omega) (by omega) (by omega)
  exact ⟨by rw [e.2.2 25 (by omega) (by omega) (by omega) (by omega) (by omega) (by omega) (by omega) (by omega)]; exact h.1, h.2.1, fun k hk => by rw [o 138 (by omega) (by omega), o 139 (by omega) (by omega), o 140 (by omega) (by omega)]; exact h.2.2 k hk⟩
abbrev mq_wn (n : Nat) (I : Nat → Nat → Int32) (J : Nat → Nat → Int64) (W : Nat) (ag : Nat → Bool) (x : Int32) : Option Value → gw_W → Prop := fun v w' => ∃ I2, w' = gS n I2 J ∧ gm_qf I I2 ∧ v = some (.int (gq_wn x (gq_cn ag (fun k => k) (2 ^ W)) (gq_al ag (fun k => k) (Int32.ofNat (2 ^ W) - 1) (2 ^ W)) (gq_no ag (fun k => k) (Int32.ofNat (2 ^ W) - 1) (2 ^ W))))
theorem m_when (x : Int32) (sz : Nat) (no ho : Nat → Nat) (hd : Nat → Bool) (hs : gm_si I sz no ho hd) (hn : gm_now I W N h0 L bc) : gw_E V 150 (0, [(0, .ref 126), (1, .int x)], [], gS n I J, 0, 0) (mq_wn n I J W (gq_sp (gz_M I) W N bc sz no ho hd) x) := by
  obtain ⟨hok, hh, hW, hbc, hb9⟩ := id hn
  have hW8 : W ≤ 8 := hok.2.1
  have hpw : 2 ^ W ≤ 256 := Nat.le_trans (Nat.pow_le_pow_right (by omega) hW8) (by decide)
  generalize hag : gq_sp (gz_M I) W N bc sz no ho hd = ag
  have lp : gz_rg x 0 2 = true → ∀ (m k : Nat), m + k = 2 ^ W → ∀ I1, gm_qf I I1 → (∀ h, h < 8 → I1 128 h = I1 127 h) → gw_E V 150 (36, [(0, .ref 126), (1, .int x), (2, .int (Int32.ofNat (gq_cn ag (fun k => k) k))), (3, .int (gq_al ag (fun k => k) (Int32.ofNat (2 ^ W) - 1) k)), (4, .int (gq_or ag k)), (5, .int (Int32.ofNat k))], [], gS n I1 J, 0, 0) (mq_wn n I J W ag x) := by
    intro hr m
    induction m with
    | zero =>
      intro k hk I1 h1 h2
      obtain rfl : k = 2 ^ W := by omega
      have hW31 : I1 126 3 = Int32.ofNat W := (gm_qf_now h1 hn).1.1
      have hcl := gq_cn_le ag (fun k => k) (2 ^ W)
      have hno := gq_no_or ag (Int32.ofNat (2 ^ W) - 1) (2 ^ W)
      generalize hC : gq_cn ag (fun k => k) (2 ^ W) = C at hcl ⊢
      refine gs_iload (pc := 36) (gd gk_150 23 rfl) rfl ?_
      refine gs_iconst (pc := 38) (gd gk_150 24 rfl) (1) rfl ?_
      refine gs_aload_n (pc := 39) (gd gk_150 25 rfl) rfl ?_
      refine gs_getI (pc := 40) (gd gk_150 26 rfl) rfl rfl ?_
      refine gs_as (Int32.ofNat W) (hW31) ?_
      refine gs_ishl (pc := 43) (gd gk_150 27 rfl) ?_
      refine gs_icmp_ge (pc := 44) (gd gk_150 28 rfl) (fun c44 => ?_) (fun c44 => ?_)
      · refine gs_iload_n (pc := 77) (gd gk_150 44 rfl) rfl ?_
        refine gs_if_ne (pc := 78) (gd gk_150 45 rfl) (fun c78 => ?_) (fun c78 => ?_)
        · refine gs_iload_n (pc := 85) (gd gk_150 48 rfl) rfl ?_
          refine gs_if_ne (pc := 86) (gd gk_150 49 rfl) (fun c86 => ?_) (fun c86 => ?_)
          · replace c86 : ¬ (C = 0) := fun q9 => c86 ((zeq (k := C) (m := 0) (by omega) (by omega)).mpr q9)
            refine gs_iload_n (pc := 94) (gd gk_150 52 rfl) rfl ?_
            refine gs_iconst (pc := 95) (gd gk_150 53 rfl) (1) rfl ?_
            refine gs_icmp_ne (pc := 96) (gd gk_150 54 rfl) (fun c96 => ?_) (fun c96 => ?_)
            · refine gs_iconst (pc := 103) (gd gk_150 57 rfl) (1) rfl ?_
              refine gs_aload_n (pc := 104) (gd gk_150 58 rfl) rfl ?_
              refine gs_getI (pc := 105) (gd gk_150 59 rfl) rfl rfl ?_
              refine gs_as (Int32.ofNat W) (hW31) ?_
              refine gs_ishl (pc := 108) (gd gk_150 60 rfl) ?_
              refine gs_iconst (pc := 109) (gd gk_150 61 rfl) (1) rfl ?_
              refine gs_isub (pc := 110) (gd gk_150 62 rfl) ?_
              refine gs_iload (pc := 111) (gd gk_150 63 rfl) rfl ?_
              refine gs_iconst (pc := 113) (gd gk_150 64 rfl) (-1) rfl ?_
              refine gs_ixor (pc := 114) (gd gk_150 65 rfl) ?_
              refine gs_iand (pc := 115) (gd gk_150 66 rfl) ?_
              -- end 1: ireturn (((1 <<< (Int32.ofNat W &&& 31)) - 1) &&& (gq_or ag (2 ^ W) ^^^ (-1))), pc 116, locals [(0, .ref (126)), (1, .int (x)), (2, .int (Int32.ofNat C)), (3, .int (gq_al ag (fun k => k) (Int32.ofNat (2 ^ W) - 1) (2 ^ W))), (4, .int (gq_or ag (2 ^ W))), (5, .int (Int32.ofNat (2 ^ W)))]
              exact gs_iret (pc := 116) (gd gk_150 67 rfl) rfl (rfl) (Nat.zero_le _) (Nat.zero_le _) (⟨I1, rfl, h1, by unfold gq_wn; rw [hC, if_pos hr, if_neg c78, if_neg c86, if_neg c96, hno, gz_shl W (by omega)]⟩)
            · refine gs_iload_n (pc := 99) (gd gk_150 55 rfl) rfl ?_
              refine gs_goto (pc := 100) (gd gk_150 56 rfl) ?_
              -- end 2: ireturn gq_al ag (fun k => k) (Int32.ofNat (2 ^ W) - 1) (2 ^ W), pc 116, locals [(0, .ref (126)), (1, .int (x)), (2, .int (Int32.ofNat C)), (3, .int (gq_al ag (fun k => k) (Int32.ofNat (2 ^ W) - 1) (2 ^ W))), (4, .int (gq_or ag (2 ^ W))), (5, .int (Int32.ofNat (2 ^ W)))]
              exact gs_iret (pc := 116) (gd gk_150 67 rfl) rfl (rfl) (Nat.zero_le _) (Nat.zero_le _) (⟨I1, rfl, h1, by unfold gq_wn; rw [hC, if_pos hr, if_neg c78, if_neg c86, if_pos c96]⟩)
          · replace c86 : C = 0 := (zeq (k := C) (m := 0) (by omega) (by omega)).mp c86
            refine gs_bipush (pc := 89) (gd gk_150 50 rfl) (-99) rfl ?_
            refine gs_goto (pc := 91) (gd gk_150 51 rfl) ?_
            -- end 3: ireturn (-99), pc 116, locals [(0, .ref (126)), (1, .int (x)), (2, .int (Int32.ofNat C)), (3, .int (gq_al ag (fun k => k) (Int32.ofNat (2 ^ W) - 1) (2 ^ W))), (4, .int (gq_or ag (2 ^ W))), (5, .int (Int32.ofNat (2 ^ W)))]
            exact gs_iret (pc := 116) (gd gk_150 67 rfl) rfl (rfl) (Nat.zero_le _) (Nat.zero_le _) (⟨I1, rfl, h1, by unfold gq_wn; rw [hC, if_pos hr, if_neg c78, if_pos c86]⟩)
        · refine gs_iload_n (pc := 81) (gd gk_150 46 rfl) rfl ?_
          refine gs_goto (pc := 82) (gd gk_150 47 rfl) ?_
          -- end 4: ireturn Int32.ofNat C, pc 116, locals [(0, .ref (126)), (1, .int (x)), (2, .int (Int32.ofNat C)), (3, .int (gq_al ag (fun k => k) (Int32.ofNat (2 ^ W) - 1) (2 ^ W))), (4, .int (gq_or ag (2 ^ W))), (5, .int (Int32.ofNat (2 ^ W)))]
          exact gs_iret (pc := 116) (gd gk_150 67 rfl) rfl (rfl) (Nat.zero_le _) (Nat.zero_le _) (⟨I1, rfl, h1, by unfold gq_wn; rw [hC, if_pos hr, if_pos c78]⟩)
      · -- end 5: stop, pc 47, locals [(0, .ref (126)), (1, .int (x)), (2, .int (Int32.ofNat C)), (3, .int (gq_al ag (fun k => k) (Int32.ofNat (2 ^ W) - 1) (2 ^ W))), (4, .int (gq_or ag (2 ^ W))), (5, .int (Int32.ofNat (2 ^ W)))]
        exact absurd (by rw [gz_shl W (by omega)]; exact Int32.le_refl _) c44
    | succ m ih =>
      intro k hk I1 h1 h2
      have hn1 := gm_qf_now h1 hn
      have hM1 := gm_qf_M h1
      have hW31 : I1 126 3 = Int32.ofNat W := hn1.1.1
      refine gs_iload (pc := 36) (gd gk_150 23 rfl) rfl ?_
      refine gs_iconst (pc := 38) (gd gk_150 24 rfl) (1) rfl ?_
      refine gs_aload_n (pc := 39) (gd gk_150 25 rfl) rfl ?_
      refine gs_getI (pc := 40) (gd gk_150 26 rfl) rfl rfl ?_
      refine gs_as (Int32.ofNat W) (hW31) ?_
      refine gs_ishl (pc := 43) (gd gk_150 27 rfl) ?_
      refine gs_icmp_ge (pc := 44) (gd gk_150 28 rfl) (fun c44 => ?_) (fun c44 => ?_)
      · -- end 1: stop, pc 77, locals [(0, .ref (126)), (1, .int (x)), (2, .int (Int32.ofNat (gq_cn ag (fun k => k) k))), (3, .int (gq_al ag (fun k => k) (Int32.ofNat (2 ^ W) - 1) k)), (4, .int (gq_or ag k)), (5, .int (Int32.ofNat k))]
        rw [gz_shl W (by omega)] at c44
        exact absurd ((zle (by omega) (by omega)).mp c44) (by omega)
      · refine gs_aload_n (pc := 47) (gd gk_150 29 rfl) rfl ?_
        refine gs_iload (pc := 48) (gd gk_150 30 rfl) rfl ?_
        refine gs_callV (as := [.int (Int32.ofNat k)]) (pc := 50) (gd gk_150 31 rfl) (by decide) rfl (by decide) rfl rfl (Nat.le_of_ble_eq_true rfl) gq_150_149 (Nat.le_of_ble_eq_true rfl) (m_isSeen k sz no ho hd (gm_si_q hs h1) hn1.1 hn1.2.2.2.1 hb9 h2) (fun r_50 w_50 q_50 => ?_)
        obtain ⟨I_s, rfl, s1, rfl⟩ := q_50
        refine gs_if_eq (pc := 53) (gd gk_150 32 rfl) (fun c53 => ?_) (fun c53 => ?_)
        · refine gs_iinc (ls2 := fun v => [(0, .ref (126)), (1, .int (x)), (2, .int (Int32.ofNat (gq_cn ag (fun k => k) k))), (3, .int (gq_al ag (fun k => k) (Int32.ofNat (2 ^ W) - 1) k)), (4, .int (gq_or ag k)), (5, .int (v))]) (pc := 71) (gd gk_150 42 rfl) rfl (by rw [gL_150]; decide) (fun _ => rfl) (1) rfl (fun v5_1 hv5_1 => ?_)
          obtain rfl : v5_1 = Int32.ofNat (k + 1) := hv5_1.trans (by first | rfl | (simp only [Int32.ofNat_add, Int32.ofNat_mul]; rfl) | (simp only [Int32.ofNat_add, Int32.ofNat_mul]))
          refine gs_goto (pc := 74) (gd gk_150 43 rfl) ?_
          -- end 2: stop, pc 36, locals [(0, .ref (126)), (1, .int (x)), (2, .int (Int32.ofNat (gq_cn ag (fun k => k) k))), (3, .int (gq_al ag (fun k => k) (Int32.ofNat (2 ^ W) - 1) k)), (4, .int (gq_or ag k)), (5, .int (Int32.ofNat (k + 1)))]
          rw [hM1, hag] at c53
          have hg := gz_b_eq.mp c53
          have := ih (k + 1) (by omega) I_s (gm_qf_tr h1 (gm_sf_q s1)) (fun h hh => by rw [s1.1 128 (by omega) (by omega), s1.1 127 (by omega) (by omega)]; exact h2 h hh)
          rw [gq_cn_f (f := fun k => k) hg, gq_al_f (f := fun k => k) hg, gq_or_f hg] at this
          exact this
        · refine gs_iinc (ls2 := fun v => [(0, .ref (126)), (1, .int (x)), (2, .int (v)), (3, .int (gq_al ag (fun k => k) (Int32.ofNat (2 ^ W) - 1) k)), (4, .int (gq_or ag k)), (5, .int (Int32.ofNat k))]) (pc := 56) (gd gk_150 33 rfl) rfl (by rw [gL_150]; decide) (fun _ => rfl) (1) rfl (fun v2_1 hv2_1 => ?_)
          obtain rfl : v2_1 = Int32.ofNat ((gq_cn ag (fun k => k) k) + 1) := hv2_1.trans (by first | rfl | (simp only [Int32.ofNat_add, Int32.ofNat_mul]; rfl) | (simp only [Int32.ofNat_add, Int32.ofNat_mul]))
          refine gs_iload_n (pc := 59) (gd gk_150 34 rfl) rfl ?_
          refine gs_iload (pc := 60) (gd gk_150 35 rfl) rfl ?_
          refine gs_iand (pc := 62) (gd gk_150 36 rfl) ?_
          refine gs_istore_n (ls2 := fun v => [(0, .ref (126)), (1, .int (x)), (2, .int (Int32.ofNat ((gq_cn ag (fun k => k) k) + 1))), (3, .int (v)), (4, .int (gq_or ag k)), (5, .int (Int32.ofNat k))]) (pc := 63) (gd gk_150 37 rfl) (by rw [gL_150]; decide) (fun _ => rfl) (fun v3_1 hv3_1 => ?_)
          refine gs_iload (pc := 64) (gd gk_150 38 rfl) rfl ?_
          refine gs_iload (pc := 66) (gd gk_150 39 rfl) rfl ?_
          refine gs_ior (pc := 68) (gd gk_150 40 rfl) ?_
          refine gs_istore (ls2 := fun v => [(0, .ref (126)), (1, .int (x)), (2, .int (Int32.ofNat ((gq_cn ag (fun k => k) k) + 1))), (3, .int (v3_1)), (4, .int (v)), (5, .int (Int32.ofNat k))]) (pc := 69) (gd gk_150 41 rfl) (by rw [gL_150]; decide) (fun _ => rfl) (fun v4_1 hv4_1 => ?_)
          refine gs_iinc (ls2 := fun v => [(0, .ref (126)), (1, .int (x)), (2, .int (Int32.ofNat ((gq_cn ag (fun k => k) k) + 1))), (3, .int (v3_1)), (4, .int (v4_1)), (5, .int (v))]) (pc := 71) (gd gk_150 42 rfl) rfl (by rw [gL_150]; decide) (fun _ => rfl) (1) rfl (fun v5_2 hv5_2 => ?_)
          obtain rfl : v5_2 = Int32.ofNat (k + 1) := hv5_2.trans (by first | rfl | (simp only [Int32.ofNat_add, Int32.ofNat_mul]; rfl) | (simp only [Int32.ofNat_add, Int32.ofNat_mul]))
          refine gs_goto (pc := 74) (gd gk_150 43 rfl) ?_
          -- end 3: stop, pc 36, locals [(0, .ref (126)), (1, .int (x)), (2, .int (Int32.ofNat ((gq_cn ag (fun k => k) k) + 1))), (3, .int (v3_1)), (4, .int (v4_1)), (5, .int (Int32.ofNat (k + 1)))]
          rw [hM1, hag] at c53
          have hg := gz_b_ne.mp c53
          have := ih (k + 1) (by omega) I_s (gm_qf_tr h1 (gm_sf_q s1)) (fun h hh => by rw [s1.1 128 (by omega) (by omega), s1.1 127 (by omega) (by omega)]; exact h2 h hh)
          rw [gq_cn_t (f := fun k => k) hg, gq_al_t (f := fun k => k) hg, gq_or_t hg] at this
          obtain rfl := hv3_1
          obtain rfl := hv4_1
          exact this
  refine gs_iload_n (pc := 0) (gd gk_150 0 rfl) rfl ?_
  refine gs_i2l (pc := 1) (gd gk_150 1 rfl) ?_
  refine gs_lconst (pc := 2) (gd gk_150 2 rfl) (0) rfl ?_
  refine gs_ldc2_w (pc := 3) (gd gk_150 3 rfl) (2) rfl ?_
  refine gs_callS (as := [.long ((x : Int32).toInt64), .long (0), .long (2)]) (pc := 6) (gd gk_150 4 rfl) (by decide) rfl rfl (Nat.le_of_ble_eq_true rfl) gq_150_107 (Nat.le_of_ble_eq_true rfl) (c_mrg (x) (0) (2)) (fun r_6 w_6 q_6 => ?_)
  obtain ⟨rfl, rfl⟩ := q_6
  refine gs_if_ne (pc := 9) (gd gk_150 5 rfl) (fun c9 => ?_) (fun c9 => ?_)
  · refine gs_aload_n (pc := 15) (gd gk_150 8 rfl) rfl ?_
    refine gs_callV (as := []) (pc := 16) (gd gk_150 9 rfl) (by decide) rfl (by decide) rfl rfl (Nat.le_of_ble_eq_true rfl) gq_150_128 (Nat.le_of_ble_eq_true rfl) (m_winds) (fun r_16 w_16 q_16 => ?_)
    obtain ⟨rfl, I_w, rfl, w1, w2⟩ := q_16
    refine gs_iconst (pc := 19) (gd gk_150 10 rfl) (0) rfl ?_
    refine gs_istore_n (ls2 := fun v => [(0, .ref (126)), (1, .int (x)), (2, .int (v))]) (pc := 20) (gd gk_150 11 rfl) (by rw [gL_150]; decide) (fun _ => rfl) (fun v2_1 hv2_1 => ?_)
    obtain rfl : v2_1 = Int32.ofNat 0 := hv2_1.trans (by first | rfl | (simp only [Int32.ofNat_add, Int32.ofNat_mul]; rfl) | (simp only [Int32.ofNat_add, Int32.ofNat_mul]))
    refine gs_iconst (pc := 21) (gd gk_150 12 rfl) (1) rfl ?_
    refine gs_aload_n (pc := 22) (gd gk_150 13 rfl) rfl ?_
    refine gs_getI (pc := 23) (gd gk_150 14 rfl) rfl rfl ?_
    refine gs_as (Int32.ofNat W) (by rw [w2 126 (by omega)]; exact hok.1) ?_
    refine gs_ishl (pc := 26) (gd gk_150 15 rfl) ?_
    refine gs_iconst (pc := 27) (gd gk_150 16 rfl) (1) rfl ?_
    refine gs_isub (pc := 28) (gd gk_150 17 rfl) ?_
    refine gs_istore_n (ls2 := fun v => [(0, .ref (126)), (1, .int (x)), (2, .int (Int32.ofNat 0)), (3, .int (v))]) (pc := 29) (gd gk_150 18 rfl) (by rw [gL_150]; decide) (fun _ => rfl) (fun v3_1 hv3_1 => ?_)
    refine gs_iconst (pc := 30) (gd gk_150 19 rfl) (0) rfl ?_
    refine gs_istore (ls2 := fun v => [(0, .ref (126)), (1, .int (x)), (2, .int (Int32.ofNat 0)), (3, .int (v3_1)), (4, .int (v))]) (pc := 31) (gd gk_150 20 rfl) (by rw [gL_150]; decide) (fun _ => rfl) (fun v4_1 hv4_1 => ?_)
    obtain rfl : v4_1 = Int32.ofNat 0 := hv4_1.trans (by first | rfl | (simp only [Int32.ofNat_add, Int32.ofNat_mul]; rfl) | (simp only [Int32.ofNat_add, Int32.ofNat_mul]))
    refine gs_iconst (pc := 33) (gd gk_150 21 rfl) (0) rfl ?_
    refine gs_istore (ls2 := fun v => [(0, .ref (126)), (1, .int (x)), (2, .int (Int32.ofNat 0)), (3, .int (v3_1)), (4, .int (Int32.ofNat 0)), (5, .int (v))]) (pc := 34) (gd gk_150 22 rfl) (by rw [gL_150]; decide) (fun _ => rfl) (fun v5_1 hv5_1 => ?_)
    obtain rfl : v5_1 = Int32.ofNat 0 := hv5_1.trans (by first | rfl | (simp only [Int32.ofNat_add, Int32.ofNat_mul]; rfl) | (simp only [Int32.ofNat_add, Int32.ofNat_mul]))
    -- end 1: stop, pc 36, locals [(0, .ref (126)), (1, .int (x)), (2, .int (Int32.ofNat 0)), (3, .int (v3_1)), (4, .int (Int32.ofNat 0)), (5, .int (Int32.ofNat 0))]
    obtain rfl : v3_1 = Int32.ofNat (2 ^ W) - 1 := by rw [hv3_1, gz_shl W (by omega)]
    exact lp (gz_b_ne.mp c9) (2 ^ W) 0 (by omega) I_w (gm_qf_128 w2) (fun h hh => by rw [w1 h hh, w2 127 (by omega)])
  · refine gs_bipush (pc := 12) (gd gk_150 6 rfl) (-2) rfl ?_
    -- end 2: ireturn (-2), pc 14, locals [(0, .ref (126)), (1, .int (x))]
    exact gs_iret (pc := 14) (gd gk_150 7 rfl) rfl (rfl) (Nat.zero_le _) (Nat.zero_le _) (⟨I, rfl, gm_qf_rf I, by unfold gq_wn; rw [if_neg (by rw [gz_b_eq.mp c9]; decide)]⟩)
end
