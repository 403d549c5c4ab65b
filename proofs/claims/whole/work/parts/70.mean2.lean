/-! ===== mean, fair of the class ===== -/
theorem gy_10 : ∀ W, W < 9 → (10 : Int) ^ W ≤ 100000000 ∧ 0 < 10 ^ W ∧ 10 ^ W < 2 ^ 40 := by decide
theorem gy_T_b2 (c : Nat → Bool) {x W : Nat} {v : Nat → Int} (hx : x ≤ 10) (hW : W ≤ 8) (hv : ∀ q, -504 ≤ v q ∧ v q ≤ 504) : -2 ^ 62 < gy_T c x (10 - x) W v ∧ gy_T c x (10 - x) W v < 2 ^ 62 := by
  have h := gy_T_b c (X := x) (Y := 10 - x) (B := 504) (by omega) (by omega) (by omega) (by omega) W v hv
  have h1 := (gy_10 W (by omega)).1
  generalize (10 : Int) ^ W = M at *
  omega
theorem zto {x : Int32} {b : Nat} (hb : b < 2 ^ 31) (h : 0 ≤ x ∧ x ≤ Int32.ofNat b) : ∃ e, x = Int32.ofNat e ∧ e ≤ b := ⟨x.toNatClampNeg, (znat h.1).1.symm, (zle_l h.1 hb).mp h.2⟩
/-- the answer of mean and of fair, where plan and x are as told -/
def gy_a (σ : Nat → Nat → Int32) (c : Nat → Bool) (W N h0 L bc : Nat) (ch : Int32) (s0 : Nat → Int32) (pl x : Int32) (o : Option Nat) (B : Nat) (up : Bool) : Int64 := if gz_rg pl 0 255 && gz_rg x 0 10 then Int64.ofInt (gz_fr (gy_T c x.toNatClampNeg (10 - x.toNatClampNeg) W (gy_vi σ N h0 L bc ch s0 pl o)) B up) else -1000000000002
section
variable {V : gw_V} {n W N h0 L bc : Nat} {I : Nat → Nat → Int32} {J : Nat → Nat → Int64}
theorem gy_left (hn : gq_now I W N h0 L bc) : I 6 3 - I 12 3 = Int32.ofNat L := by
  obtain ⟨hok, hh, hW, -⟩ := id hn
  rw [show I 6 3 = Int32.ofNat W from hok.1, hh, zsubn (by omega), show W - h0 = L by omega]
theorem gy_p10 : Int64.ofInt (((10 : Nat) : Int) ^ L) = Int64.ofNat (10 ^ L) := by rw [← Int64.ofInt_eq_ofNat, Int.natCast_pow]
theorem c_mean (pl x : Int32) (up : Bool) (hn : gq_now I W N h0 L bc) : gw_E V 85 (0, [(0, .ref 3), (1, .int pl), (2, .int x), (3, .int (gz_b up))], [], gS n I J, 0, 0) (fun v w' => v = some (.long (gy_a (gz_S I) (gy_c h0) W N h0 L bc (I 12 1) (I 13) pl x none (10 ^ L) up)) ∧ ∃ I2, w' = gS n I2 J ∧ gq_qf I I2) := by
  have hW8 : W ≤ 8 := hn.1.2.1
  have hW : h0 + L = W := hn.2.2.1
  by_cases hx : 0 ≤ x ∧ x ≤ 10
  · obtain ⟨e, rfl, he⟩ := zto (b := 10) (by decide) hx
    have hb := gy_T_b2 (gy_c h0) (v := gy_vi (gz_S I) N h0 L bc (I 12 1) (I 13) pl none) he hW8 (gy_v_b (W := W) hn.1 (by omega) (fun m q9 => by cases q9))
    have h10 := (gy_10 L (by omega)).2
    refine gs_iload_n (pc := 0) (gd gk_85 0 rfl) rfl ?_
    refine gs_callS (as := [.int (pl)]) (pc := 1) (gd gk_85 1 rfl) (by decide) rfl rfl (Nat.le_of_ble_eq_true rfl) gq_85_94 (Nat.le_of_ble_eq_true rfl) (c_plan (pl)) (fun r_1 w_1 q_1 => ?_)
    obtain ⟨rfl, rfl⟩ := q_1
    refine gs_if_eq (pc := 4) (gd gk_85 2 rfl) (fun c4 => ?_) (fun c4 => ?_)
    · refine gs_ldc2_w (pc := 14) (gd gk_85 6 rfl) (-1000000000002) rfl ?_
      -- end 1: lreturn (-1000000000002), pc 17, locals [(0, .ref (3)), (1, .int (pl)), (2, .int (Int32.ofNat e)), (3, .int (gz_b up))]
      exact gs_lret (pc := 17) (gd gk_85 7 rfl) rfl (Nat.zero_le _) (Nat.zero_le _) (⟨by unfold gy_a; rw [gz_b_eq.mp c4]; rfl, I, rfl, ⟨fun _ _ _ _ => rfl, rfl, rfl, rfl⟩⟩)
    · refine gs_iload_n (pc := 7) (gd gk_85 3 rfl) rfl ?_
      refine gs_callS (as := [.int (Int32.ofNat e)]) (pc := 8) (gd gk_85 4 rfl) (by decide) rfl rfl (Nat.le_of_ble_eq_true rfl) gq_85_95 (Nat.le_of_ble_eq_true rfl) (c_tens (Int32.ofNat e)) (fun r_8 w_8 q_8 => ?_)
      obtain ⟨rfl, rfl⟩ := q_8
      refine gs_if_ne (pc := 11) (gd gk_85 5 rfl) (fun c11 => ?_) (fun c11 => ?_)
      · refine gs_aload_n (pc := 18) (gd gk_85 8 rfl) rfl ?_
        refine gs_iconst (pc := 19) (gd gk_85 9 rfl) (-1) rfl ?_
        refine gs_iload_n (pc := 20) (gd gk_85 10 rfl) rfl ?_
        refine gs_iload_n (pc := 21) (gd gk_85 11 rfl) rfl ?_
        refine gs_callV (as := [.int ((-1)), .int (pl), .int (Int32.ofNat e)]) (pc := 22) (gd gk_85 12 rfl) (by decide) rfl (by decide) rfl rfl (Nat.le_of_ble_eq_true rfl) gq_85_102 (Nat.le_of_ble_eq_true rfl) (c_meanAbove none (-1) pl e he (.inl ⟨rfl, rfl⟩) hn) (fun r_22 w_22 q_22 => ?_)
        obtain ⟨rfl, I_m, rfl, m1⟩ := q_22
        refine gs_bipush (pc := 25) (gd gk_85 13 rfl) (10) rfl ?_
        refine gs_aload_n (pc := 27) (gd gk_85 14 rfl) rfl ?_
        refine gs_callV (as := []) (pc := 28) (gd gk_85 15 rfl) (by decide) rfl (by decide) rfl rfl (Nat.le_of_ble_eq_true rfl) gq_85_97 (Nat.le_of_ble_eq_true rfl) (c_left) (fun r_28 w_28 q_28 => ?_)
        obtain ⟨rfl, rfl⟩ := q_28
        refine gs_callS (as := [.int (10), .int ((I_m 6 3 - I_m 12 3))]) (pc := 31) (gd gk_85 16 rfl) (by decide) rfl rfl (Nat.le_of_ble_eq_true rfl) gq_85_103 (Nat.le_of_ble_eq_true rfl) ((by rw [gy_left (gq_now_qf m1 hn)]; exact c_power 10 L (by omega) (by omega))) (fun r_31 w_31 q_31 => ?_)
        obtain ⟨rfl, rfl⟩ := q_31
        refine gs_iload_n (pc := 34) (gd gk_85 17 rfl) rfl ?_
        refine gs_callS (as := [.long ((Int64.ofInt (gy_T (gy_c h0) e (10 - e) W (gy_vi (gz_S I) N h0 L bc (I 12 1) (I 13) pl none)))), .long ((Int64.ofInt (((10 : Nat) : Int) ^ L))), .int (gz_b up)]) (pc := 35) (gd gk_85 18 rfl) (by decide) rfl rfl (Nat.le_of_ble_eq_true rfl) gq_85_104 (Nat.le_of_ble_eq_true rfl) ((by rw [gy_p10]; exact c_told _ (10 ^ L) up hb.1 hb.2 h10.1 h10.2)) (fun r_35 w_35 q_35 => ?_)
        obtain ⟨rfl, rfl⟩ := q_35
        -- end 2: lreturn (Int64.ofInt (gz_fr (gy_T (gy_c h0) e (10 - e) W (gy_vi (gz_S I) N h0 L bc (I 12 1) (I 13) pl none)) (10 ^ L) up)), pc 38, locals [(0, .ref (3)), (1, .int (pl)), (2, .int (Int32.ofNat e)), (3, .int (gz_b up))]
        exact gs_lret (pc := 38) (gd gk_85 19 rfl) rfl (Nat.zero_le _) (Nat.zero_le _) (⟨by unfold gy_a; rw [gz_b_ne.mp c4, gz_b_ne.mp c11, znn (by omega)]; rfl, I_m, rfl, m1⟩)
      · refine gs_ldc2_w (pc := 14) (gd gk_85 6 rfl) (-1000000000002) rfl ?_
        -- end 3: lreturn (-1000000000002), pc 17, locals [(0, .ref (3)), (1, .int (pl)), (2, .int (Int32.ofNat e)), (3, .int (gz_b up))]
        exact gs_lret (pc := 17) (gd gk_85 7 rfl) rfl (Nat.zero_le _) (Nat.zero_le _) (⟨by unfold gy_a; rw [gz_b_eq.mp c11, Bool.and_false]; rfl, I, rfl, ⟨fun _ _ _ _ => rfl, rfl, rfl, rfl⟩⟩)
  · skip
    refine gs_iload_n (pc := 0) (gd gk_85 0 rfl) rfl ?_
    refine gs_callS (as := [.int (pl)]) (pc := 1) (gd gk_85 1 rfl) (by decide) rfl rfl (Nat.le_of_ble_eq_true rfl) gq_85_94 (Nat.le_of_ble_eq_true rfl) (c_plan (pl)) (fun r_1 w_1 q_1 => ?_)
    obtain ⟨rfl, rfl⟩ := q_1
    refine gs_if_eq (pc := 4) (gd gk_85 2 rfl) (fun c4 => ?_) (fun c4 => ?_)
    · refine gs_ldc2_w (pc := 14) (gd gk_85 6 rfl) (-1000000000002) rfl ?_
      -- end 1: lreturn (-1000000000002), pc 17, locals [(0, .ref (3)), (1, .int (pl)), (2, .int (x)), (3, .int (gz_b up))]
      exact gs_lret (pc := 17) (gd gk_85 7 rfl) rfl (Nat.zero_le _) (Nat.zero_le _) (⟨by unfold gy_a; rw [gz_b_eq.mp c4]; rfl, I, rfl, ⟨fun _ _ _ _ => rfl, rfl, rfl, rfl⟩⟩)
    · refine gs_iload_n (pc := 7) (gd gk_85 3 rfl) rfl ?_
      refine gs_callS (as := [.int (x)]) (pc := 8) (gd gk_85 4 rfl) (by decide) rfl rfl (Nat.le_of_ble_eq_true rfl) gq_85_95 (Nat.le_of_ble_eq_true rfl) (c_tens (x)) (fun r_8 w_8 q_8 => ?_)
      obtain ⟨rfl, rfl⟩ := q_8
      refine gs_if_ne (pc := 11) (gd gk_85 5 rfl) (fun c11 => ?_) (fun c11 => ?_)
      · -- end 2: stop, pc 18, locals [(0, .ref (3)), (1, .int (pl)), (2, .int (x)), (3, .int (gz_b up))]
        exact absurd (gz_rg_t.mp (gz_b_ne.mp c11)) hx
      · refine gs_ldc2_w (pc := 14) (gd gk_85 6 rfl) (-1000000000002) rfl ?_
        -- end 3: lreturn (-1000000000002), pc 17, locals [(0, .ref (3)), (1, .int (pl)), (2, .int (x)), (3, .int (gz_b up))]
        exact gs_lret (pc := 17) (gd gk_85 7 rfl) rfl (Nat.zero_le _) (Nat.zero_le _) (⟨by unfold gy_a; rw [gz_b_eq.mp c11, Bool.and_false]; rfl, I, rfl, ⟨fun _ _ _ _ => rfl, rfl, rfl, rfl⟩⟩)
theorem c_fair (k pl x : Int32) (up : Bool) (hn : gq_now I W N h0 L bc) : gw_E V 86 (0, [(0, .ref 3), (1, .int k), (2, .int pl), (3, .int x), (4, .int (gz_b up))], [], gS n I J, 0, 0) (fun v w' => v = some (.long (if gz_rg k 0 (Int32.ofNat N - 1) then gy_a (gz_S I) (gy_c h0) W N h0 L bc (I 12 1) (I 13) pl x (some k.toNatClampNeg) (10 ^ L) up else -1000000000001)) ∧ ∃ I2, w' = gS n I2 J ∧ gq_qf I I2) := by
  have hW8 : W ≤ 8 := hn.1.2.1
  have hW : h0 + L = W := hn.2.2.1
  have hN6 : N ≤ 6 := hn.1.2.2.2.1
  have hN : I 6 4 = Int32.ofNat N := hn.1.2.2.1
  have h6 : 0 ≤ I 6 4 ∧ I 6 4 ≤ 6 := by rw [hN]; exact ⟨z0 N (by omega), (zle (m := 6) (by omega) (by decide)).mpr hN6⟩
  by_cases hk : 0 ≤ k ∧ k ≤ Int32.ofNat N - 1
  · have hkN : k < Int32.ofNat N := by have := z0 N (by omega); generalize Int32.ofNat N = y at *; grind
    obtain ⟨m, rfl, hm⟩ : ∃ m, k = Int32.ofNat m ∧ m < N := ⟨k.toNatClampNeg, (znat hk.1).1.symm, (zlt_l hk.1 (by omega)).mp hkN⟩
    have hr1 : gz_rg (Int32.ofNat m) 0 (Int32.ofNat N - 1) = true := gz_rg_t.mpr hk
    rw [hr1, znn (by omega)]
    by_cases hx : 0 ≤ x ∧ x ≤ 10
    · obtain ⟨e, rfl, he⟩ := zto (b := 10) (by decide) hx
      have hb := gy_T_b2 (gy_c h0) (v := gy_vi (gz_S I) N h0 L bc (I 12 1) (I 13) pl (some m)) he hW8 (gy_v_b (W := W) hn.1 (by omega) (fun j q9 => by cases q9; exact hm))
      have h10 := (gy_10 L (by omega)).2
      refine gs_aload_n (pc := 0) (gd gk_86 0 rfl) rfl ?_
      refine gs_getR (r := 6) (pc := 1) (gd gk_86 1 rfl) rfl rfl rfl (by decide) ?_
      refine gs_iload_n (pc := 4) (gd gk_86 2 rfl) rfl ?_
      refine gs_callV (as := [.int (Int32.ofNat m)]) (pc := 5) (gd gk_86 3 rfl) (by decide) rfl (by decide) rfl rfl (Nat.le_of_ble_eq_true rfl) gq_86_34 (Nat.le_of_ble_eq_true rfl) (c_nose (Int32.ofNat m) h6) (fun r_5 w_5 q_5 => ?_)
      rw [hN] at q_5
      obtain ⟨rfl, rfl⟩ := q_5
      refine gs_if_ne (pc := 8) (gd gk_86 4 rfl) (fun c8 => ?_) (fun c8 => ?_)
      · refine gs_iload_n (pc := 15) (gd gk_86 7 rfl) rfl ?_
        refine gs_callS (as := [.int (pl)]) (pc := 16) (gd gk_86 8 rfl) (by decide) rfl rfl (Nat.le_of_ble_eq_true rfl) gq_86_94 (Nat.le_of_ble_eq_true rfl) (c_plan (pl)) (fun r_16 w_16 q_16 => ?_)
        obtain ⟨rfl, rfl⟩ := q_16
        refine gs_if_eq (pc := 19) (gd gk_86 9 rfl) (fun c19 => ?_) (fun c19 => ?_)
        · refine gs_ldc2_w (pc := 29) (gd gk_86 13 rfl) (-1000000000002) rfl ?_
          -- end 1: lreturn (-1000000000002), pc 32, locals [(0, .ref (3)), (1, .int (Int32.ofNat m)), (2, .int (pl)), (3, .int (Int32.ofNat e)), (4, .int (gz_b up))]
          exact gs_lret (pc := 32) (gd gk_86 14 rfl) rfl (Nat.zero_le _) (Nat.zero_le _) (⟨by unfold gy_a; rw [gz_b_eq.mp c19]; rfl, I, rfl, ⟨fun _ _ _ _ => rfl, rfl, rfl, rfl⟩⟩)
        · refine gs_iload_n (pc := 22) (gd gk_86 10 rfl) rfl ?_
          refine gs_callS (as := [.int (Int32.ofNat e)]) (pc := 23) (gd gk_86 11 rfl) (by decide) rfl rfl (Nat.le_of_ble_eq_true rfl) gq_86_95 (Nat.le_of_ble_eq_true rfl) (c_tens (Int32.ofNat e)) (fun r_23 w_23 q_23 => ?_)
          obtain ⟨rfl, rfl⟩ := q_23
          refine gs_if_ne (pc := 26) (gd gk_86 12 rfl) (fun c26 => ?_) (fun c26 => ?_)
          · refine gs_aload_n (pc := 33) (gd gk_86 15 rfl) rfl ?_
            refine gs_iload_n (pc := 34) (gd gk_86 16 rfl) rfl ?_
            refine gs_iload_n (pc := 35) (gd gk_86 17 rfl) rfl ?_
            refine gs_iload_n (pc := 36) (gd gk_86 18 rfl) rfl ?_
            refine gs_callV (as := [.int (Int32.ofNat m), .int (pl), .int (Int32.ofNat e)]) (pc := 37) (gd gk_86 19 rfl) (by decide) rfl (by decide) rfl rfl (Nat.le_of_ble_eq_true rfl) gq_86_102 (Nat.le_of_ble_eq_true rfl) (c_meanAbove (some m) (Int32.ofNat m) pl e he (.inr ⟨m, rfl, hm, rfl⟩) hn) (fun r_37 w_37 q_37 => ?_)
            obtain ⟨rfl, I_m, rfl, m1⟩ := q_37
            refine gs_bipush (pc := 40) (gd gk_86 20 rfl) (10) rfl ?_
            refine gs_aload_n (pc := 42) (gd gk_86 21 rfl) rfl ?_
            refine gs_callV (as := []) (pc := 43) (gd gk_86 22 rfl) (by decide) rfl (by decide) rfl rfl (Nat.le_of_ble_eq_true rfl) gq_86_97 (Nat.le_of_ble_eq_true rfl) (c_left) (fun r_43 w_43 q_43 => ?_)
            obtain ⟨rfl, rfl⟩ := q_43
            refine gs_callS (as := [.int (10), .int ((I_m 6 3 - I_m 12 3))]) (pc := 46) (gd gk_86 23 rfl) (by decide) rfl rfl (Nat.le_of_ble_eq_true rfl) gq_86_103 (Nat.le_of_ble_eq_true rfl) ((by rw [gy_left (gq_now_qf m1 hn)]; exact c_power 10 L (by omega) (by omega))) (fun r_46 w_46 q_46 => ?_)
            obtain ⟨rfl, rfl⟩ := q_46
            refine gs_iload (pc := 49) (gd gk_86 24 rfl) rfl ?_
            refine gs_callS (as := [.long ((Int64.ofInt (gy_T (gy_c h0) e (10 - e) W (gy_vi (gz_S I) N h0 L bc (I 12 1) (I 13) pl (some m))))), .long ((Int64.ofInt (((10 : Nat) : Int) ^ L))), .int (gz_b up)]) (pc := 51) (gd gk_86 25 rfl) (by decide) rfl rfl (Nat.le_of_ble_eq_true rfl) gq_86_104 (Nat.le_of_ble_eq_true rfl) ((by rw [gy_p10]; exact c_told _ (10 ^ L) up hb.1 hb.2 h10.1 h10.2)) (fun r_51 w_51 q_51 => ?_)
            obtain ⟨rfl, rfl⟩ := q_51
            -- end 2: lreturn (Int64.ofInt (gz_fr (gy_T (gy_c h0) e (10 - e) W (gy_vi (gz_S I) N h0 L bc (I 12 1) (I 13) pl (some m))) (10 ^ L) up)), pc 54, locals [(0, .ref (3)), (1, .int (Int32.ofNat m)), (2, .int (pl)), (3, .int (Int32.ofNat e)), (4, .int (gz_b up))]
            exact gs_lret (pc := 54) (gd gk_86 26 rfl) rfl (Nat.zero_le _) (Nat.zero_le _) (⟨by unfold gy_a; rw [gz_b_ne.mp c19, gz_b_ne.mp c26, znn (by omega)]; rfl, I_m, rfl, m1⟩)
          · refine gs_ldc2_w (pc := 29) (gd gk_86 13 rfl) (-1000000000002) rfl ?_
            -- end 3: lreturn (-1000000000002), pc 32, locals [(0, .ref (3)), (1, .int (Int32.ofNat m)), (2, .int (pl)), (3, .int (Int32.ofNat e)), (4, .int (gz_b up))]
            exact gs_lret (pc := 32) (gd gk_86 14 rfl) rfl (Nat.zero_le _) (Nat.zero_le _) (⟨by unfold gy_a; rw [gz_b_eq.mp c26, Bool.and_false]; rfl, I, rfl, ⟨fun _ _ _ _ => rfl, rfl, rfl, rfl⟩⟩)
      · refine gs_ldc2_w (pc := 11) (gd gk_86 5 rfl) (-1000000000001) rfl ?_
        -- end 4: lreturn (-1000000000001), pc 14, locals [(0, .ref (3)), (1, .int (Int32.ofNat m)), (2, .int (pl)), (3, .int (Int32.ofNat e)), (4, .int (gz_b up))]
        exact absurd (by rw [hr1]; decide) (fun q9 : ¬ gz_b (gz_rg (Int32.ofNat m) 0 (Int32.ofNat N - 1)) = 0 => q9 c8)
    · skip
      refine gs_aload_n (pc := 0) (gd gk_86 0 rfl) rfl ?_
      refine gs_getR (r := 6) (pc := 1) (gd gk_86 1 rfl) rfl rfl rfl (by decide) ?_
      refine gs_iload_n (pc := 4) (gd gk_86 2 rfl) rfl ?_
      refine gs_callV (as := [.int (Int32.ofNat m)]) (pc := 5) (gd gk_86 3 rfl) (by decide) rfl (by decide) rfl rfl (Nat.le_of_ble_eq_true rfl) gq_86_34 (Nat.le_of_ble_eq_true rfl) (c_nose (Int32.ofNat m) h6) (fun r_5 w_5 q_5 => ?_)
      rw [hN] at q_5
      obtain ⟨rfl, rfl⟩ := q_5
      refine gs_if_ne (pc := 8) (gd gk_86 4 rfl) (fun c8 => ?_) (fun c8 => ?_)
      · refine gs_iload_n (pc := 15) (gd gk_86 7 rfl) rfl ?_
        refine gs_callS (as := [.int (pl)]) (pc := 16) (gd gk_86 8 rfl) (by decide) rfl rfl (Nat.le_of_ble_eq_true rfl) gq_86_94 (Nat.le_of_ble_eq_true rfl) (c_plan (pl)) (fun r_16 w_16 q_16 => ?_)
        obtain ⟨rfl, rfl⟩ := q_16
        refine gs_if_eq (pc := 19) (gd gk_86 9 rfl) (fun c19 => ?_) (fun c19 => ?_)
        · refine gs_ldc2_w (pc := 29) (gd gk_86 13 rfl) (-1000000000002) rfl ?_
          -- end 1: lreturn (-1000000000002), pc 32, locals [(0, .ref (3)), (1, .int (Int32.ofNat m)), (2, .int (pl)), (3, .int (x)), (4, .int (gz_b up))]
          exact gs_lret (pc := 32) (gd gk_86 14 rfl) rfl (Nat.zero_le _) (Nat.zero_le _) (⟨by unfold gy_a; rw [gz_b_eq.mp c19]; rfl, I, rfl, ⟨fun _ _ _ _ => rfl, rfl, rfl, rfl⟩⟩)
        · refine gs_iload_n (pc := 22) (gd gk_86 10 rfl) rfl ?_
          refine gs_callS (as := [.int (x)]) (pc := 23) (gd gk_86 11 rfl) (by decide) rfl rfl (Nat.le_of_ble_eq_true rfl) gq_86_95 (Nat.le_of_ble_eq_true rfl) (c_tens (x)) (fun r_23 w_23 q_23 => ?_)
          obtain ⟨rfl, rfl⟩ := q_23
          refine gs_if_ne (pc := 26) (gd gk_86 12 rfl) (fun c26 => ?_) (fun c26 => ?_)
          · -- end 2: stop, pc 33, locals [(0, .ref (3)), (1, .int (Int32.ofNat m)), (2, .int (pl)), (3, .int (x)), (4, .int (gz_b up))]
            exact absurd (gz_rg_t.mp (gz_b_ne.mp c26)) hx
          · refine gs_ldc2_w (pc := 29) (gd gk_86 13 rfl) (-1000000000002) rfl ?_
            -- end 3: lreturn (-1000000000002), pc 32, locals [(0, .ref (3)), (1, .int (Int32.ofNat m)), (2, .int (pl)), (3, .int (x)), (4, .int (gz_b up))]
            exact gs_lret (pc := 32) (gd gk_86 14 rfl) rfl (Nat.zero_le _) (Nat.zero_le _) (⟨by unfold gy_a; rw [gz_b_eq.mp c26, Bool.and_false]; rfl, I, rfl, ⟨fun _ _ _ _ => rfl, rfl, rfl, rfl⟩⟩)
      · refine gs_ldc2_w (pc := 11) (gd gk_86 5 rfl) (-1000000000001) rfl ?_
        -- end 4: lreturn (-1000000000001), pc 14, locals [(0, .ref (3)), (1, .int (Int32.ofNat m)), (2, .int (pl)), (3, .int (x)), (4, .int (gz_b up))]
        exact absurd (by rw [hr1]; decide) (fun q9 : ¬ gz_b (gz_rg (Int32.ofNat m) 0 (Int32.ofNat N - 1)) = 0 => q9 c8)
  · have hr1 : gz_rg k 0 (Int32.ofNat N - 1) = false := gz_rg_f.mpr hk
    refine gs_aload_n (pc := 0) (gd gk_86 0 rfl) rfl ?_
    refine gs_getR (r := 6) (pc := 1) (gd gk_86 1 rfl) rfl rfl rfl (by decide) ?_
    refine gs_iload_n (pc := 4) (gd gk_86 2 rfl) rfl ?_
    refine gs_callV (as := [.int (k)]) (pc := 5) (gd gk_86 3 rfl) (by decide) rfl (by decide) rfl rfl (Nat.le_of_ble_eq_true rfl) gq_86_34 (Nat.le_of_ble_eq_true rfl) (c_nose k h6) (fun r_5 w_5 q_5 => ?_)
    rw [hN] at q_5
    obtain ⟨rfl, rfl⟩ := q_5
    refine gs_if_ne (pc := 8) (gd gk_86 4 rfl) (fun c8 => ?_) (fun c8 => ?_)
    · -- end 1: stop, pc 15, locals [(0, .ref (3)), (1, .int (k)), (2, .int (pl)), (3, .int (x)), (4, .int (gz_b up))]
      exact absurd (gz_rg_t.mp (gz_b_ne.mp c8)) hk
    · refine gs_ldc2_w (pc := 11) (gd gk_86 5 rfl) (-1000000000001) rfl ?_
      -- end 2: lreturn (-1000000000001), pc 14, locals [(0, .ref (3)), (1, .int (k)), (2, .int (pl)), (3, .int (x)), (4, .int (gz_b up))]
      exact gs_lret (pc := 14) (gd gk_86 6 rfl) rfl (Nat.zero_le _) (Nat.zero_le _) (⟨by rw [hr1]; rfl, I, rfl, ⟨fun _ _ _ _ => rfl, rfl, rfl, rfl⟩⟩)
end
