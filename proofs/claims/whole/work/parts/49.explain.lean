/-! ===== what was seen: explain, when; the class ===== -/
def gq_cn (ag : Nat → Bool) (f : Nat → Nat) : Nat → Nat
  | 0 => 0
  | k + 1 => if ag (f k) then gq_cn ag f k + 1 else gq_cn ag f k
def gq_al (ag : Nat → Bool) (f : Nat → Nat) (M : Int32) : Nat → Int32
  | 0 => M
  | k + 1 => if ag (f k) then gq_al ag f M k &&& Int32.ofNat (f k) else gq_al ag f M k
def gq_no (ag : Nat → Bool) (f : Nat → Nat) (M : Int32) : Nat → Int32
  | 0 => M
  | k + 1 => if ag (f k) then gq_no ag f M k &&& (Int32.ofNat (f k) ^^^ -1) else gq_no ag f M k
theorem gq_cn_le (ag : Nat → Bool) (f : Nat → Nat) : ∀ k, gq_cn ag f k ≤ k
  | 0 => Nat.le_refl _
  | k + 1 => by
    unfold gq_cn
    have := gq_cn_le ag f k
    split <;> omega
section
variable {ag : Nat → Bool} {f : Nat → Nat} {M : Int32} {k : Nat}
theorem gq_cn_t (h : ag (f k) = true) : gq_cn ag f (k + 1) = gq_cn ag f k + 1 := by show (if ag (f k) then _ else _) = _; rw [h]; rfl
theorem gq_cn_f (h : ag (f k) = false) : gq_cn ag f (k + 1) = gq_cn ag f k := by show (if ag (f k) then _ else _) = _; rw [h]; rfl
theorem gq_al_t (h : ag (f k) = true) : gq_al ag f M (k + 1) = gq_al ag f M k &&& Int32.ofNat (f k) := by show (if ag (f k) then _ else _) = _; rw [h]; rfl
theorem gq_al_f (h : ag (f k) = false) : gq_al ag f M (k + 1) = gq_al ag f M k := by show (if ag (f k) then _ else _) = _; rw [h]; rfl
theorem gq_no_t (h : ag (f k) = true) : gq_no ag f M (k + 1) = gq_no ag f M k &&& (Int32.ofNat (f k) ^^^ -1) := by show (if ag (f k) then _ else _) = _; rw [h]; rfl
theorem gq_no_f (h : ag (f k) = false) : gq_no ag f M (k + 1) = gq_no ag f M k := by show (if ag (f k) then _ else _) = _; rw [h]; rfl
end
theorem gq_on_o {I I2 : Nat → Nat → Int32} {W N h0 L bc : Nat} (ho : ∀ p, (6 ≤ p ∧ p ≤ 11) ∨ (57 ≤ p ∧ p ≤ 80) → I2 p = I p) (h : gq_on I W N h0 L bc) : gq_on I2 W N h0 L bc := by
  have hS : gz_S I2 = gz_S I := gz_S_eq (fun p _ _ => ho p (by omega))
  have h57 := ho 57 (by omega)
  obtain ⟨a0, a1, a2, a3, a4, a5, a6, a7, a8, fo, a9, a10, a11⟩ := h
  have hW8 := a0.2.1
  refine ⟨by rw [hS]; exact a0, by rw [h57]; exact a1, by rw [h57]; exact a2, a3, by rw [h57]; exact a4, a5, by rw [ho 78 (by omega)]; exact a6, by rw [ho 79 (by omega)]; exact a7, fun m hm => by rw [ho 69 (by omega)]; exact a8 m hm, fo, a9, by rw [h57]; exact a10, fun q hq => ?_⟩
  rw [hS, h57]
  exact gq_rel_eq (a11 q hq) hS (ho _ (by omega)) (ho _ (by omega)) (ho _ (by omega)) (ho _ (by omega)) (fun p hp => by rw [ho p (by omega)]; exact ⟨rfl, rfl⟩)
/-- what is seen by a plan -/
abbrev gq_A (σ : Nat → Nat → Int32) (bc : Nat) (ch : Int32) (s0 : Nat → Int32) (p : Nat) : Nat → Nat → Bool := fun g m => gq_has σ (gq_sq σ (gq_w0 σ 0) (gq_p0 (Int32.ofNat p) 0) bc ch s0 (g + 1)) m
/-- the sights, in numbers: the class -/
def gz_si (I : Nat → Nat → Int32) (sz : Nat) (no ho : Nat → Nat) (hd : Nat → Bool) : Prop := I 53 3 = Int32.ofNat sz ∧ sz ≤ 6 ∧ ∀ k, k < sz → I 54 k = Int32.ofNat (no k) ∧ no k < 6 ∧ I 55 k = Int32.ofNat (ho k) ∧ ho k < 8 ∧ I 56 k = gz_b (hd k)
theorem gz_si_o {I I2 : Nat → Nat → Int32} {sz : Nat} {no ho : Nat → Nat} {hd : Nat → Bool} (h : gz_si I sz no ho hd) (e3 : I2 53 3 = I 53 3) (e : ∀ p, 54 ≤ p → p ≤ 56 → I2 p = I p) : gz_si I2 sz no ho hd := ⟨by rw [e3]; exact h.1, h.2.1, fun k hk => by rw [e 54 (by omega) (by omega), e 55 (by omega) (by omega), e 56 (by omega) (by omega)]; exact h.2.2 k hk⟩
abbrev cq_ex (n : Nat) (I : Nat → Nat → Int32) (J : Nat → Nat → Int64) (W N bc sz : Nat) (no ho : Nat → Nat) (hd : Nat → Bool) : Option Value → gw_W → Prop := fun v w' => v = none ∧ ∃ I2, w' = gS n I2 J ∧ (∀ p, p ≠ 53 → ¬ (57 ≤ p ∧ p ≤ 125) → p ≠ 14 → p ≠ 15 → I2 p = I p) ∧ I2 78 0 = I 78 0 ∧ I2 79 0 = I 79 0 ∧ I2 69 = I 69 ∧ I2 53 3 = I 53 3 ∧ I2 53 4 = Int32.ofNat (gq_cn (fun p => gq_ag (gq_A (gz_S I) bc (I 57 6) (I 59) p) W N no ho hd sz) (fun k => gz_sn k 0 W W) (2 ^ W)) ∧ I2 53 5 = gq_al (fun p => gq_ag (gq_A (gz_S I) bc (I 57 6) (I 59) p) W N no ho hd sz) (fun k => gz_sn k 0 W W) (Int32.ofNat (2 ^ W) - 1) (2 ^ W) ∧ I2 53 6 = gq_no (fun p => gq_ag (gq_A (gz_S I) bc (I 57 6) (I 59) p) W N no ho hd sz) (fun k => gz_sn k 0 W W) (Int32.ofNat (2 ^ W) - 1) (2 ^ W)
theorem c_explain {V : gw_V} {n W N bc : Nat} {I : Nat → Nat → Int32} {J : Nat → Nat → Int64} (sz : Nat) (no ho : Nat → Nat) (hd : Nat → Bool) (hs : gz_si I sz no ho hd) (hon : gq_on I W N 0 W bc) : gw_E V 25 (0, [(0, .ref 53), (1, .ref 6), (2, .ref 57)], [], gS n I J, 0, 0) (cq_ex n I J W N bc sz no ho hd) := by
  obtain ⟨hok, -, -, hW, -⟩ := id hon
  have hW8 : W ≤ 8 := hok.2.1
  have hN6 : N ≤ 6 := hok.2.2.2.1
  generalize hag : (fun p => gq_ag (gq_A (gz_S I) bc (I 57 6) (I 59) p) W N no ho hd sz) = ag
  generalize hf : (fun k => gz_sn k 0 W W) = f
  have hpw : 2 ^ W ≤ 256 := Nat.le_trans (Nat.pow_le_pow_right (by omega) (show W ≤ 8 by omega)) (by decide)
  have lp : ∀ (m k : Nat), m + k = 2 ^ W → ∀ I1, gq_on I1 W N 0 W bc → (∀ p, p ≠ 53 → ¬ (57 ≤ p ∧ p ≤ 125) → p ≠ 14 → p ≠ 15 → I1 p = I p) → I1 78 0 = I 78 0 → I1 79 0 = I 79 0 → I1 69 = I 69 → I1 59 = I 59 → I1 57 6 = I 57 6 → I1 53 3 = I 53 3 → I1 53 4 = Int32.ofNat (gq_cn ag f k) → I1 53 5 = gq_al ag f (Int32.ofNat (2 ^ W) - 1) k → I1 53 6 = gq_no ag f (Int32.ofNat (2 ^ W) - 1) k → gw_E V 25 (25, [(0, .ref 53), (1, .ref 6), (2, .ref 57), (3, .int (Int32.ofNat k))], [], gS n I1 J, 0, 0) (cq_ex n I J W N bc sz no ho hd) := by
    intro m
    induction m with
    | zero =>
      intro k hk I1 h1 h2 h3 h4 h5 h6 h7 h8 h9 h10 h11
      obtain rfl : k = 2 ^ W := by omega
      refine gs_iload_n (pc := 25) (gd gk_25 15 rfl) rfl ?_
      refine gs_aload_n (pc := 26) (gd gk_25 16 rfl) rfl ?_
      refine gs_callV (as := []) (pc := 27) (gd gk_25 17 rfl) (by decide) rfl (by decide) rfl rfl (Nat.le_of_ble_eq_true rfl) gq_25_51 (Nat.le_of_ble_eq_true rfl) (c_sets (L := W) h1.2.2.1 (by omega)) (fun r_27 w_27 q_27 => ?_)
      obtain ⟨rfl, rfl⟩ := q_27
      refine gs_icmp_ge (pc := 30) (gd gk_25 18 rfl) (fun c30 => ?_) (fun c30 => ?_)
      · replace c30 : (2 ^ W) ≤ (2 ^ W) := (zle (k := (2 ^ W)) (m := (2 ^ W)) (by omega) (by omega)).mp c30
        -- end 1: return, pc 96, locals [(0, .ref (53)), (1, .ref (6)), (2, .ref (57)), (3, .int (Int32.ofNat (2 ^ W)))]
        exact gs_ret (pc := 96) (gd gk_25 54 rfl) rfl (Nat.zero_le _) (Nat.zero_le _) (⟨rfl, I1, rfl, h2, h3, h4, h5, h8, by rw [hag, hf]; exact h9, by rw [hag, hf]; exact h10, by rw [hag, hf]; exact h11⟩)
      · replace c30 : ¬ ((2 ^ W) ≤ (2 ^ W)) := fun q9 => c30 ((zle (k := (2 ^ W)) (m := (2 ^ W)) (by omega) (by omega)).mpr q9)
        -- end 2: stop, pc 33, locals [(0, .ref (53)), (1, .ref (6)), (2, .ref (57)), (3, .int (Int32.ofNat (2 ^ W)))]
        exact absurd (Nat.le_refl _) c30
    | succ m ih =>
      intro k hk I1 h1 h2 h3 h4 h5 h6 h7 h8 h9 h10 h11
      have hS1 : gz_S I1 = gz_S I := gz_S_eq (fun p a b => h2 p (by omega) (by omega) (by omega) (by omega))
      have hkL : k < 2 ^ W := by omega
      have hfk : f k = gz_sn k 0 W W := by rw [← hf]
      have hagk : ag (f k) = gq_ag (gq_A (gz_S I) bc (I 57 6) (I 59) (gz_sn k 0 W W)) W N no ho hd sz := by rw [hfk, ← hag]
      refine gs_iload_n (pc := 25) (gd gk_25 15 rfl) rfl ?_
      refine gs_aload_n (pc := 26) (gd gk_25 16 rfl) rfl ?_
      refine gs_callV (as := []) (pc := 27) (gd gk_25 17 rfl) (by decide) rfl (by decide) rfl rfl (Nat.le_of_ble_eq_true rfl) gq_25_51 (Nat.le_of_ble_eq_true rfl) (c_sets (L := W) h1.2.2.1 (by omega)) (fun r_27 w_27 q_27 => ?_)
      obtain ⟨rfl, rfl⟩ := q_27
      refine gs_icmp_ge (pc := 30) (gd gk_25 18 rfl) (fun c30 => ?_) (fun c30 => ?_)
      · replace c30 : (2 ^ W) ≤ k := (zle (k := (2 ^ W)) (m := k) (by omega) (by omega)).mp c30
        -- end 1: return, pc 96, locals [(0, .ref (53)), (1, .ref (6)), (2, .ref (57)), (3, .int (Int32.ofNat k))]
        exact absurd c30 (by omega)
      · replace c30 : ¬ ((2 ^ W) ≤ k) := fun q9 => c30 ((zle (k := (2 ^ W)) (m := k) (by omega) (by omega)).mpr q9)
        refine gs_aload_n (pc := 33) (gd gk_25 19 rfl) rfl ?_
        refine gs_iload_n (pc := 34) (gd gk_25 20 rfl) rfl ?_
        refine gs_callV (as := [.int (Int32.ofNat k)]) (pc := 35) (gd gk_25 21 rfl) (by decide) rfl (by decide) rfl rfl (Nat.le_of_ble_eq_true rfl) gq_25_52 (Nat.le_of_ble_eq_true rfl) (c_set k hkL h1.2.1 h1.2.2.1 (by omega)) (fun r_35 w_35 q_35 => ?_)
        obtain ⟨rfl, rfl⟩ := q_35
        refine gs_istore (ls2 := fun v => [(0, .ref (53)), (1, .ref (6)), (2, .ref (57)), (3, .int (Int32.ofNat k)), (4, .int (v))]) (pc := 38) (gd gk_25 22 rfl) (by rw [gL_25]; decide) (fun _ => rfl) (fun v4_1 hv4_1 => ?_)
        obtain rfl : v4_1 = Int32.ofNat (gz_sn k 0 W W) := hv4_1.trans (by first | rfl | (simp only [Int32.ofNat_add, Int32.ofNat_mul]; rfl) | (simp only [Int32.ofNat_add, Int32.ofNat_mul]))
        refine gs_aload_n (pc := 40) (gd gk_25 23 rfl) rfl ?_
        refine gs_iload (pc := 41) (gd gk_25 24 rfl) rfl ?_
        refine gs_iconst (pc := 43) (gd gk_25 25 rfl) (0) rfl ?_
        refine gs_callV (as := [.int (Int32.ofNat (gz_sn k 0 W W)), .int (0)]) (pc := 44) (gd gk_25 26 rfl) (by decide) rfl (by decide) rfl rfl (Nat.le_of_ble_eq_true rfl) gq_25_53 (Nat.le_of_ble_eq_true rfl) (c_take2 (Int32.ofNat (gz_sn k 0 W W)) 0 h1) (fun r_44 w_44 q_44 => ?_)
        obtain ⟨rfl, I_t, rfl, t1, t2, t3⟩ := q_44
        have b53 : I_t 53 = I1 53 := t1.1 53 (by omega) (by omega) (by omega)
        have bS : gz_S I_t = gz_S I := by rw [gq_wf_S t1]; exact hS1
        have bq := gq_qf_w t1
        have bo : ∀ p, p ≠ 53 → ¬ (57 ≤ p ∧ p ≤ 125) → p ≠ 14 → p ≠ 15 → I_t p = I p := fun p q1 q2 q3 q4 => by rw [bq.1 p q2 q3 q4]; exact h2 p q1 q2 q3 q4
        have b59 : I_t 59 = I 59 := by rw [t1.1 59 (by omega) (by omega) (by omega)]; exact h6
        have b6 : I_t 57 6 = I 57 6 := by rw [t1.2.2 6 (by omega) (by omega) (by omega)]; exact h7
        have bsi : gz_si I_t sz no ho hd := gz_si_o hs (by rw [b53]; exact h8) (fun p q1 q2 => bo p (by omega) (by omega) (by omega) (by omega))
        have hA : ∀ g, g < W → ∀ m, m < N → gz_in (I_t 80 (g + 1)) (Int32.ofNat m) = gq_A (gz_S I) bc (I 57 6) (I 59) (gz_sn k 0 W W) g m := fun g hg m hm => by rw [(t3 (g + 1) (by omega)).2.2.2.2 (by omega), gq_who_bit _ _ (by omega) _ (by omega), decide_eq_true hm, Bool.true_and, hS1, h6, h7]
        refine gs_aload_n (pc := 47) (gd gk_25 27 rfl) rfl ?_
        refine gs_aload_n (pc := 48) (gd gk_25 28 rfl) rfl ?_
        refine gs_aload_n (pc := 49) (gd gk_25 29 rfl) rfl ?_
        refine gs_callV (as := [.ref (6), .ref (57)]) (pc := 50) (gd gk_25 30 rfl) (by decide) rfl (by decide) rfl rfl (Nat.le_of_ble_eq_true rfl) gq_25_26 (Nat.le_of_ble_eq_true rfl) (c_agree sz no ho hd (gq_A (gz_S I) bc (I 57 6) (I 59) (gz_sn k 0 W W)) bsi.1 bsi.2.1 (fun k hk => ⟨(bsi.2.2 k hk).1, (bsi.2.2 k hk).2.1⟩) (fun k hk => ⟨(bsi.2.2 k hk).2.2.1, (bsi.2.2 k hk).2.2.2.1⟩) (fun k hk => (bsi.2.2 k hk).2.2.2.2) t2.1.2.2.1 hN6 t2.1.1 hW8 hA) (fun r_50 w_50 q_50 => ?_)
        obtain ⟨rfl, rfl⟩ := q_50
        refine gs_if_eq (pc := 53) (gd gk_25 31 rfl) (fun c53 => ?_) (fun c53 => ?_)
        · refine gs_iinc (ls2 := fun v => [(0, .ref (53)), (1, .ref (6)), (2, .ref (57)), (3, .int (v)), (4, .int (Int32.ofNat (gz_sn k 0 W W)))]) (pc := 90) (gd gk_25 52 rfl) rfl (by rw [gL_25]; decide) (fun _ => rfl) (1) rfl (fun v3_1 hv3_1 => ?_)
          obtain rfl : v3_1 = Int32.ofNat (k + 1) := hv3_1.trans (by first | rfl | (simp only [Int32.ofNat_add, Int32.ofNat_mul]; rfl) | (simp only [Int32.ofNat_add, Int32.ofNat_mul]))
          refine gs_goto (pc := 93) (gd gk_25 53 rfl) ?_
          -- end 2: stop, pc 25, locals [(0, .ref (53)), (1, .ref (6)), (2, .ref (57)), (3, .int (Int32.ofNat (k + 1))), (4, .int (Int32.ofNat (gz_sn k 0 W W)))]
          have hg : ag (f k) = false := by rw [hagk]; exact gz_b_eq.mp c53
          refine gs_drop [0, 1, 2, 3] rfl (ih (k + 1) (by omega) I_t t2 bo (by rw [bq.2.1, h3]) (by rw [bq.2.2.1, h4]) (by rw [bq.2.2.2, h5]) b59 b6 (by rw [b53]; exact h8) (by rw [b53, h9, gq_cn_f hg]) (by rw [b53, h10, gq_al_f hg]) (by rw [b53, h11, gq_no_f hg]))
        · refine gs_aload_n (pc := 56) (gd gk_25 32 rfl) rfl ?_
          refine gs_dup (pc := 57) (gd gk_25 33 rfl) rfl ?_
          refine gs_getI (pc := 58) (gd gk_25 34 rfl) rfl rfl ?_
          refine gs_iconst (pc := 61) (gd gk_25 35 rfl) (1) rfl ?_
          refine gs_iadd (pc := 62) (gd gk_25 36 rfl) ?_
          refine gs_putI (pc := 63) (gd gk_25 37 rfl) rfl rfl rfl rfl (fun I_1 hI_1 => ?_)
          refine gs_aload_n (pc := 66) (gd gk_25 38 rfl) rfl ?_
          refine gs_dup (pc := 67) (gd gk_25 39 rfl) rfl ?_
          refine gs_getI (pc := 68) (gd gk_25 40 rfl) rfl rfl ?_
          refine gs_iload (pc := 71) (gd gk_25 41 rfl) rfl ?_
          refine gs_iand (pc := 73) (gd gk_25 42 rfl) ?_
          refine gs_putI (pc := 74) (gd gk_25 43 rfl) rfl rfl rfl rfl (fun I_2 hI_2 => ?_)
          refine gs_aload_n (pc := 77) (gd gk_25 44 rfl) rfl ?_
          refine gs_dup (pc := 78) (gd gk_25 45 rfl) rfl ?_
          refine gs_getI (pc := 79) (gd gk_25 46 rfl) rfl rfl ?_
          refine gs_iload (pc := 82) (gd gk_25 47 rfl) rfl ?_
          refine gs_iconst (pc := 84) (gd gk_25 48 rfl) (-1) rfl ?_
          refine gs_ixor (pc := 85) (gd gk_25 49 rfl) ?_
          refine gs_iand (pc := 86) (gd gk_25 50 rfl) ?_
          refine gs_putI (pc := 87) (gd gk_25 51 rfl) rfl rfl rfl rfl (fun I_3 hI_3 => ?_)
          refine gs_iinc (ls2 := fun v => [(0, .ref (53)), (1, .ref (6)), (2, .ref (57)), (3, .int (v)), (4, .int (Int32.ofNat (gz_sn k 0 W W)))]) (pc := 90) (gd gk_25 52 rfl) rfl (by rw [gL_25]; decide) (fun _ => rfl) (1) rfl (fun v3_2 hv3_2 => ?_)
          obtain rfl : v3_2 = Int32.ofNat (k + 1) := hv3_2.trans (by first | rfl | (simp only [Int32.ofNat_add, Int32.ofNat_mul]; rfl) | (simp only [Int32.ofNat_add, Int32.ofNat_mul]))
          refine gs_goto (pc := 93) (gd gk_25 53 rfl) ?_
          -- end 3: stop, pc 25, locals [(0, .ref (53)), (1, .ref (6)), (2, .ref (57)), (3, .int (Int32.ofNat (k + 1))), (4, .int (Int32.ofNat (gz_sn k 0 W W)))]
          have hg : ag (f k) = true := by rw [hagk]; exact gz_b_ne.mp c53
          have o : ∀ p, p ≠ 53 → I_3 p = I_t p := fun p hp => by rw [hI_3, gw_u_o hp, hI_2, gw_u_o hp, hI_1, gw_u_o hp]
          have e : I_3 53 3 = I1 53 3 ∧ I_3 53 4 = I1 53 4 + 1 ∧ I_3 53 5 = I1 53 5 &&& Int32.ofNat (gz_sn k 0 W W) ∧ I_3 53 6 = I1 53 6 &&& (Int32.ofNat (gz_sn k 0 W W) ^^^ -1) := by
            refine ⟨?_, ?_, ?_, ?_⟩ <;> subst hI_3 hI_2 hI_1 <;> simp [gw_u, b53]
          refine gs_drop [0, 1, 2, 3] rfl (ih (k + 1) (by omega) I_3 (gq_on_o (fun p hp => o p (by omega)) t2) (fun p q1 q2 q3 q4 => by rw [o p q1]; exact bo p q1 q2 q3 q4) (by rw [o 78 (by omega), bq.2.1, h3]) (by rw [o 79 (by omega), bq.2.2.1, h4]) (by rw [o 69 (by omega), bq.2.2.2, h5]) (by rw [o 59 (by omega)]; exact b59) (by rw [o 57 (by omega)]; exact b6) (by rw [e.1]; exact h8) ?_ ?_ ?_)
          · rw [e.2.1, h9, gq_cn_t hg, zsucc]
          · rw [e.2.2.1, h10, gq_al_t hg, hfk]
          · rw [e.2.2.2, h11, gq_no_t hg, hfk]
  refine gs_aload_n (pc := 0) (gd gk_25 0 rfl) rfl ?_
  refine gs_iconst (pc := 1) (gd gk_25 1 rfl) (0) rfl ?_
  refine gs_putI (pc := 2) (gd gk_25 2 rfl) rfl rfl rfl rfl (fun I_1 hI_1 => ?_)
  refine gs_aload_n (pc := 5) (gd gk_25 3 rfl) rfl ?_
  refine gs_aload_n (pc := 6) (gd gk_25 4 rfl) rfl ?_
  refine gs_callV (as := []) (pc := 7) (gd gk_25 5 rfl) (by decide) rfl (by decide) rfl rfl (Nat.le_of_ble_eq_true rfl) gq_25_51 (Nat.le_of_ble_eq_true rfl) (c_sets (L := W) (by rw [hI_1, gw_u_o (by omega)]; exact hon.2.2.1) (by omega)) (fun r_7 w_7 q_7 => ?_)
  obtain ⟨rfl, rfl⟩ := q_7
  refine gs_iconst (pc := 10) (gd gk_25 6 rfl) (1) rfl ?_
  refine gs_isub (pc := 11) (gd gk_25 7 rfl) ?_
  refine gs_putI (pc := 12) (gd gk_25 8 rfl) rfl rfl rfl rfl (fun I_2 hI_2 => ?_)
  refine gs_aload_n (pc := 15) (gd gk_25 9 rfl) rfl ?_
  refine gs_aload_n (pc := 16) (gd gk_25 10 rfl) rfl ?_
  refine gs_getI (pc := 17) (gd gk_25 11 rfl) rfl rfl ?_
  refine gs_putI (pc := 20) (gd gk_25 12 rfl) rfl rfl rfl rfl (fun I_3 hI_3 => ?_)
  refine gs_iconst (pc := 23) (gd gk_25 13 rfl) (0) rfl ?_
  refine gs_istore_n (ls2 := fun v => [(0, .ref (53)), (1, .ref (6)), (2, .ref (57)), (3, .int (v))]) (pc := 24) (gd gk_25 14 rfl) (by rw [gL_25]; decide) (fun _ => rfl) (fun v3_1 hv3_1 => ?_)
  obtain rfl : v3_1 = Int32.ofNat 0 := hv3_1.trans (by first | rfl | (simp only [Int32.ofNat_add, Int32.ofNat_mul]; rfl) | (simp only [Int32.ofNat_add, Int32.ofNat_mul]))
  -- end 1: stop, pc 25, locals [(0, .ref (53)), (1, .ref (6)), (2, .ref (57)), (3, .int (Int32.ofNat 0))]
  have o : ∀ p, p ≠ 53 → I_3 p = I p := fun p hp => by rw [hI_3, gw_u_o hp, hI_2, gw_u_o hp, hI_1, gw_u_o hp]
  have e : I_3 53 3 = I 53 3 ∧ I_3 53 4 = 0 ∧ I_3 53 5 = Int32.ofNat (2 ^ W) - 1 ∧ I_3 53 6 = Int32.ofNat (2 ^ W) - 1 := by
    refine ⟨?_, ?_, ?_, ?_⟩ <;> subst hI_3 hI_2 hI_1 <;> simp [gw_u]
  exact lp (2 ^ W) 0 (by omega) I_3 (gq_on_o (fun p hp => o p (by omega)) hon) (fun p q1 _ _ _ => o p q1) (by rw [o 78 (by omega)]) (by rw [o 79 (by omega)]) (o 69 (by omega)) (o 59 (by omega)) (by rw [o 57 (by omega)]) e.1 e.2.1 e.2.2.1 e.2.2.2
