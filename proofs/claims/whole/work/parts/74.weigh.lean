/-! ===== shares: the class's weigh ===== -/
/-- the most that comes by a plan -/
def gq_mx (val : Nat → Int32) (h0 L : Nat) (y : Int32) : Prop := (∃ p, gz_su p h0 L ∧ val p = y) ∧ ∀ q, gz_su q h0 L → (val q).toInt ≤ y.toInt
theorem gq_mx_one {val va2 : Nat → Int32} {h0 L : Nat} {y z : Int32} (h : ∀ p, gz_su p h0 L → val p = va2 p) (h1 : gq_mx val h0 L y) (h2 : gq_mx va2 h0 L z) : y = z := by
  obtain ⟨⟨p, a1, a2⟩, a3⟩ := h1
  obtain ⟨⟨q, b1, b2⟩, b3⟩ := h2
  have c1 := a3 q b1
  have c2 := b3 p a1
  rw [h q b1, b2] at c1
  rw [← h p a1, a2] at c2
  exact Int32.toInt_inj.mp (by omega)
def gq_up (val : Nat → Int32) (f : Nat → Nat) (k : Nat) (y : Int32) : Prop := ∃ j, j < k ∧ y = val (f j) ∧ ∀ i, i < k → (val (f i)).toInt ≤ y.toInt
theorem gq_up_new {val : Nat → Int32} {f : Nat → Nat} {k : Nat} (h : k = 0 ∨ ∃ y, gq_up val f k y ∧ y < val (f k)) : gq_up val f (k + 1) (val (f k)) := by
  refine ⟨k, by omega, rfl, fun i hi => ?_⟩
  by_cases e : i = k
  · rw [e]; exact Int.le_refl _
  · rcases h with h | ⟨y, ⟨j, -, -, h1⟩, h2⟩
    · omega
    · have := h1 i (by omega)
      have := Int32.lt_iff_toInt_lt.mp h2
      omega
theorem gq_up_old {val : Nat → Int32} {f : Nat → Nat} {k : Nat} {y : Int32} (h : gq_up val f k y) (h2 : val (f k) ≤ y) : gq_up val f (k + 1) y := by
  obtain ⟨j, a1, a2, a3⟩ := h
  refine ⟨j, by omega, a2, fun i hi => ?_⟩
  by_cases e : i = k
  · rw [e]; exact Int32.le_iff_toInt_le.mp h2
  · exact a3 i (by omega)
theorem gq_up_mx {val : Nat → Int32} {h0 L : Nat} {y : Int32} (h8 : h0 + L < 9) (h : gq_up val (fun k => gz_sn k h0 L L) (2 ^ L) y) : gq_mx val h0 L y := by
  obtain ⟨j, a1, a2, a3⟩ := h
  refine ⟨⟨gz_sn j h0 L L, gz_sn_su h0 (by omega) L (by omega) h8 j a1, a2.symm⟩, fun q hq => ?_⟩
  have := (gz_su_sn h0 (by omega) L (by omega) h8 q hq.2).resolve_left (fun z => z hq.1)
  rw [← this.2]
  exact a3 _ this.1
section
variable {V : gw_V} {n W N h0 L bc : Nat} {I : Nat → Nat → Int32} {J : Nat → Nat → Int64}
abbrev gq_vs (σ : Nat → Nat → Int32) (N h0 L bc : Nat) (ch : Int32) (s0 : Nat → Int32) (s : Nat) : Nat → Int32 := gq_val σ N h0 L bc ch s0 (fun m => s.testBit m)
abbrev cq_wg (n : Nat) (I : Nat → Nat → Int32) (J : Nat → Nat → Int64) (N h0 L bc : Nat) : Option Value → gw_W → Prop := fun v w' => v = none ∧ ∃ I2, w' = gS n I2 J ∧ gq_qf I I2 ∧ ∀ s, s < 2 ^ N → gq_mx (gq_vs (gz_S I) N h0 L bc (I 57 6) (I 59) s) h0 L (I2 83 s)
theorem c_weigh (hon : gq_on I W N h0 L bc) : gw_E V 9 (0, [(0, .ref 82)], [], gS n I J, 0, 0) (cq_wg n I J N h0 L bc) := by
  obtain ⟨hok, -, -, hW, -⟩ := id hon
  have hW8 : W ≤ 8 := hok.2.1
  have hN6 : N ≤ 6 := hok.2.2.2.1
  have h64 := gz_64 hN6
  have hpw : 2 ^ L ≤ 256 := Nat.le_trans (Nat.pow_le_pow_right (by omega) (show L ≤ 8 by omega)) (by decide)
  generalize hval : gq_vs (gz_S I) N h0 L bc (I 57 6) (I 59) = val
  have lp : ∀ (m k : Nat), m + k = 2 ^ L → ∀ I1, gq_on I1 W N h0 L bc → gq_qf I I1 → I1 59 = I 59 → I1 57 6 = I 57 6 → (0 < k → ∀ s, s < 2 ^ N → gq_up (val s) (fun k => gz_sn k h0 L L) k (I1 83 s)) → gw_E V 9 (2, [(0, .ref 82), (1, .int (Int32.ofNat k))], [], gS n I1 J, 0, 0) (cq_wg n I J N h0 L bc) := by
    intro m
    induction m with
    | zero =>
      intro k hk I1 h1 h2 h3 h4 h5
      obtain rfl : k = 2 ^ L := by omega
      refine gs_iload_n (pc := 2) (gd gk_9 2 rfl) rfl ?_
      refine gs_aload_n (pc := 3) (gd gk_9 3 rfl) rfl ?_
      refine gs_getR (r := 57) (pc := 4) (gd gk_9 4 rfl) rfl rfl rfl (by decide) ?_
      refine gs_callV (as := []) (pc := 7) (gd gk_9 5 rfl) (by decide) rfl (by decide) rfl rfl (Nat.le_of_ble_eq_true rfl) gq_9_51 (Nat.le_of_ble_eq_true rfl) (c_sets (L := L) h1.2.2.1 (by omega)) (fun r_7 w_7 q_7 => ?_)
      obtain ⟨rfl, rfl⟩ := q_7
      refine gs_icmp_ge (pc := 10) (gd gk_9 6 rfl) (fun c10 => ?_) (fun c10 => ?_)
      · replace c10 : (2 ^ L) ≤ (2 ^ L) := (zle (k := (2 ^ L)) (m := (2 ^ L)) (by omega) (by omega)).mp c10
        -- end 1: return, pc 94, locals [(0, .ref (82)), (1, .int (Int32.ofNat (2 ^ L)))]
        exact gs_ret (pc := 94) (gd gk_9 52 rfl) rfl (Nat.zero_le _) (Nat.zero_le _) (⟨rfl, I1, rfl, h2, fun s hs => by rw [hval]; exact gq_up_mx (by omega) (h5 (Nat.two_pow_pos L) s hs)⟩)
      · replace c10 : ¬ ((2 ^ L) ≤ (2 ^ L)) := fun q9 => c10 ((zle (k := (2 ^ L)) (m := (2 ^ L)) (by omega) (by omega)).mpr q9)
        -- end 2: stop, pc 13, locals [(0, .ref (82)), (1, .int (Int32.ofNat (2 ^ L)))]
        exact absurd (Nat.le_refl _) c10
    | succ m ih =>
      intro k hk I1 h1 h2 h3 h4 h5
      have hS1 : gz_S I1 = gz_S I := gq_qf_S h2
      have hkL : k < 2 ^ L := by omega
      have hsn := gz_se_sn h0 (by omega) L (by omega) (by omega) k hkL
      have hsu := gz_sn_su h0 (by omega) L (by omega) (by omega) k hkL
      have inner : ∀ (r g : Nat), r + g = 2 ^ N → ∀ I2, gq_on I2 W N h0 L bc → gq_qf I I2 → I2 59 = I 59 → I2 57 6 = I 57 6 → (∀ s, s < 2 ^ N → I2 84 s = val s (gz_sn k h0 L L)) → (∀ s, s < g → gq_up (val s) (fun k => gz_sn k h0 L L) (k + 1) (I2 83 s)) → (0 < k → ∀ s, g ≤ s → s < 2 ^ N → gq_up (val s) (fun k => gz_sn k h0 L L) k (I2 83 s)) → gw_E V 9 (38, [(0, .ref 82), (1, .int (Int32.ofNat k)), (2, .int (Int32.ofNat (gz_sn k h0 L L))), (3, .int (Int32.ofNat g))], [], gS n I2 J, 0, 0) (cq_wg n I J N h0 L bc) := by
        intro r
        induction r with
        | zero =>
          intro g hg I2 a1 a2 a3 a4 a5 a6 a7
          obtain rfl : g = 2 ^ N := by omega
          have hN1 : I2 6 4 = Int32.ofNat N := a1.1.2.2.1
          refine gs_iload_n (pc := 38) (gd gk_9 22 rfl) rfl ?_
          refine gs_iconst (pc := 39) (gd gk_9 23 rfl) (1) rfl ?_
          refine gs_aload_n (pc := 40) (gd gk_9 24 rfl) rfl ?_
          refine gs_getR (r := 6) (pc := 41) (gd gk_9 25 rfl) rfl rfl rfl (by decide) ?_
          refine gs_getI (pc := 44) (gd gk_9 26 rfl) rfl rfl ?_
          refine gs_as (Int32.ofNat N) (hN1) ?_
          refine gs_ishl (pc := 47) (gd gk_9 27 rfl) ?_
          refine gs_as (Int32.ofNat (2 ^ N)) (gz_shl N (by omega)) ?_
          refine gs_icmp_ge (pc := 48) (gd gk_9 28 rfl) (fun c48 => ?_) (fun c48 => ?_)
          · replace c48 : (2 ^ N) ≤ (2 ^ N) := (zle (k := (2 ^ N)) (m := (2 ^ N)) (by omega) (by omega)).mp c48
            refine gs_iinc (ls2 := fun v => [(0, .ref (82)), (1, .int (v)), (2, .int (Int32.ofNat (gz_sn k h0 L L))), (3, .int (Int32.ofNat (2 ^ N)))]) (pc := 88) (gd gk_9 50 rfl) rfl (by rw [gL_9]; decide) (fun _ => rfl) (1) rfl (fun v1_1 hv1_1 => ?_)
            obtain rfl : v1_1 = Int32.ofNat (k + 1) := hv1_1.trans (by first | rfl | (simp only [Int32.ofNat_add, Int32.ofNat_mul]; rfl) | (simp only [Int32.ofNat_add, Int32.ofNat_mul]))
            refine gs_goto (pc := 91) (gd gk_9 51 rfl) ?_
            -- end 1: stop, pc 2, locals [(0, .ref (82)), (1, .int (Int32.ofNat (k + 1))), (2, .int (Int32.ofNat (gz_sn k h0 L L))), (3, .int (Int32.ofNat (2 ^ N)))]
            exact gs_drop [0, 1] rfl (ih (k + 1) (by omega) I2 a1 a2 a3 a4 (fun _ => a6))
          · replace c48 : ¬ ((2 ^ N) ≤ (2 ^ N)) := fun q9 => c48 ((zle (k := (2 ^ N)) (m := (2 ^ N)) (by omega) (by omega)).mpr q9)
            -- end 2: stop, pc 51, locals [(0, .ref (82)), (1, .int (Int32.ofNat k)), (2, .int (Int32.ofNat (gz_sn k h0 L L))), (3, .int (Int32.ofNat (2 ^ N)))]
            exact absurd (Nat.le_refl _) c48
        | succ r ihr =>
          intro g hg I2 a1 a2 a3 a4 a5 a6 a7
          have hN1 : I2 6 4 = Int32.ofNat N := a1.1.2.2.1
          have put : ∀ I3, I3 = gw_u I2 83 g (I2 84 g) → gq_up (val g) (fun k => gz_sn k h0 L L) (k + 1) (I2 84 g) → gw_E V 9 (38, [(0, .ref 82), (1, .int (Int32.ofNat k)), (2, .int (Int32.ofNat (gz_sn k h0 L L))), (3, .int (Int32.ofNat (g + 1)))], [], gS n I3 J, 0, 0) (cq_wg n I J N h0 L bc) := by
            intro I3 e3 hu
            have o : ∀ p, p ≠ 83 → I3 p = I2 p := fun p hp => by rw [e3, gw_u_o hp]
            have o2 : ∀ s, s ≠ g → I3 83 s = I2 83 s := fun s hs => by rw [e3, gw_u_s]; unfold upd; rw [if_neg hs]
            have e83 : I3 83 g = I2 84 g := by rw [e3, gw_u_s]; simp [upd]
            refine ihr (g + 1) (by omega) I3 (gq_on_o (fun p hp => o p (by omega)) a1) (gq_qf_tr a2 ⟨fun p _ _ _ => o p (by omega), by rw [o 78 (by omega)], by rw [o 79 (by omega)], o 69 (by omega)⟩) (by rw [o 59 (by omega)]; exact a3) (by rw [o 57 (by omega)]; exact a4) (fun s hs => by rw [o 84 (by omega)]; exact a5 s hs) (fun s hs => ?_) (fun h0 s h1 h2 => by rw [o2 s (by omega)]; exact a7 h0 s (by omega) h2)
            by_cases e : s = g
            · rw [e, e83]; exact hu
            · rw [o2 s e]; exact a6 s (by omega)
          refine gs_iload_n (pc := 38) (gd gk_9 22 rfl) rfl ?_
          refine gs_iconst (pc := 39) (gd gk_9 23 rfl) (1) rfl ?_
          refine gs_aload_n (pc := 40) (gd gk_9 24 rfl) rfl ?_
          refine gs_getR (r := 6) (pc := 41) (gd gk_9 25 rfl) rfl rfl rfl (by decide) ?_
          refine gs_getI (pc := 44) (gd gk_9 26 rfl) rfl rfl ?_
          refine gs_as (Int32.ofNat N) (hN1) ?_
          refine gs_ishl (pc := 47) (gd gk_9 27 rfl) ?_
          refine gs_as (Int32.ofNat (2 ^ N)) (gz_shl N (by omega)) ?_
          refine gs_icmp_ge (pc := 48) (gd gk_9 28 rfl) (fun c48 => ?_) (fun c48 => ?_)
          · replace c48 : (2 ^ N) ≤ g := (zle (k := (2 ^ N)) (m := g) (by omega) (by omega)).mp c48
            -- end 1: stop, pc 88, locals [(0, .ref (82)), (1, .int (Int32.ofNat k)), (2, .int (Int32.ofNat (gz_sn k h0 L L))), (3, .int (Int32.ofNat g))]
            exact absurd c48 (by omega)
          · replace c48 : ¬ ((2 ^ N) ≤ g) := fun q9 => c48 ((zle (k := (2 ^ N)) (m := g) (by omega) (by omega)).mpr q9)
            refine gs_iload_n (pc := 51) (gd gk_9 29 rfl) rfl ?_
            refine gs_if_eq (pc := 52) (gd gk_9 30 rfl) (fun c52 => ?_) (fun c52 => ?_)
            · replace c52 : k = 0 := (zeq (k := k) (m := 0) (by omega) (by omega)).mp c52
              refine gs_aload_n (pc := 70) (gd gk_9 40 rfl) rfl ?_
              refine gs_getR (r := 83) (pc := 71) (gd gk_9 41 rfl) rfl rfl rfl (by decide) ?_
              refine gs_iload_n (pc := 74) (gd gk_9 42 rfl) rfl ?_
              refine gs_aload_n (pc := 75) (gd gk_9 43 rfl) rfl ?_
              refine gs_getR (r := 84) (pc := 76) (gd gk_9 44 rfl) rfl rfl rfl (by decide) ?_
              refine gs_iload_n (pc := 79) (gd gk_9 45 rfl) rfl ?_
              refine gs_ialoadK (g) (64) (pc := 80) (gd gk_9 46 rfl) (Or.inl rfl) rfl (by decide) (by first | rfl | (simp only [Int32.ofNat_add, Int32.ofNat_mul]; rfl) | (simp only [Int32.ofNat_add, Int32.ofNat_mul])) (by omega) ?_
              refine gs_iastoreK (g) (64) gs_sl (pc := 81) (gd gk_9 47 rfl) rfl rfl (by decide) (by first | rfl | (simp only [Int32.ofNat_add, Int32.ofNat_mul]; rfl) | (simp only [Int32.ofNat_add, Int32.ofNat_mul])) (by omega) (fun I_1 hI_1 => ?_)
              refine gs_iinc (ls2 := fun v => [(0, .ref (82)), (1, .int (Int32.ofNat k)), (2, .int (Int32.ofNat (gz_sn k h0 L L))), (3, .int (v))]) (pc := 82) (gd gk_9 48 rfl) rfl (by rw [gL_9]; decide) (fun _ => rfl) (1) rfl (fun v3_1 hv3_1 => ?_)
              obtain rfl : v3_1 = Int32.ofNat (g + 1) := hv3_1.trans (by first | rfl | (simp only [Int32.ofNat_add, Int32.ofNat_mul]; rfl) | (simp only [Int32.ofNat_add, Int32.ofNat_mul]))
              refine gs_goto (pc := 85) (gd gk_9 49 rfl) ?_
              -- end 2: stop, pc 38, locals [(0, .ref (82)), (1, .int (Int32.ofNat k)), (2, .int (Int32.ofNat (gz_sn k h0 L L))), (3, .int (Int32.ofNat (g + 1)))]
              exact put _ hI_1 (by rw [a5 g (by omega)]; exact gq_up_new (.inl c52))
            · replace c52 : ¬ (k = 0) := fun q9 => c52 ((zeq (k := k) (m := 0) (by omega) (by omega)).mpr q9)
              refine gs_aload_n (pc := 55) (gd gk_9 31 rfl) rfl ?_
              refine gs_getR (r := 84) (pc := 56) (gd gk_9 32 rfl) rfl rfl rfl (by decide) ?_
              refine gs_iload_n (pc := 59) (gd gk_9 33 rfl) rfl ?_
              refine gs_ialoadK (g) (64) (pc := 60) (gd gk_9 34 rfl) (Or.inl rfl) rfl (by decide) (by first | rfl | (simp only [Int32.ofNat_add, Int32.ofNat_mul]; rfl) | (simp only [Int32.ofNat_add, Int32.ofNat_mul])) (by omega) ?_
              refine gs_aload_n (pc := 61) (gd gk_9 35 rfl) rfl ?_
              refine gs_getR (r := 83) (pc := 62) (gd gk_9 36 rfl) rfl rfl rfl (by decide) ?_
              refine gs_iload_n (pc := 65) (gd gk_9 37 rfl) rfl ?_
              refine gs_ialoadK (g) (64) (pc := 66) (gd gk_9 38 rfl) (Or.inl rfl) rfl (by decide) (by first | rfl | (simp only [Int32.ofNat_add, Int32.ofNat_mul]; rfl) | (simp only [Int32.ofNat_add, Int32.ofNat_mul])) (by omega) ?_
              refine gs_icmp_le (pc := 67) (gd gk_9 39 rfl) (fun c67 => ?_) (fun c67 => ?_)
              · refine gs_iinc (ls2 := fun v => [(0, .ref (82)), (1, .int (Int32.ofNat k)), (2, .int (Int32.ofNat (gz_sn k h0 L L))), (3, .int (v))]) (pc := 82) (gd gk_9 48 rfl) rfl (by rw [gL_9]; decide) (fun _ => rfl) (1) rfl (fun v3_2 hv3_2 => ?_)
                obtain rfl : v3_2 = Int32.ofNat (g + 1) := hv3_2.trans (by first | rfl | (simp only [Int32.ofNat_add, Int32.ofNat_mul]; rfl) | (simp only [Int32.ofNat_add, Int32.ofNat_mul]))
                refine gs_goto (pc := 85) (gd gk_9 49 rfl) ?_
                -- end 3: stop, pc 38, locals [(0, .ref (82)), (1, .int (Int32.ofNat k)), (2, .int (Int32.ofNat (gz_sn k h0 L L))), (3, .int (Int32.ofNat (g + 1)))]
                refine ihr (g + 1) (by omega) I2 a1 a2 a3 a4 a5 (fun s hs => ?_) (fun h0 s h1 h2 => a7 h0 s (by omega) h2)
                by_cases e : s = g
                · rw [e]; rw [a5 g (by omega)] at c67; exact gq_up_old (a7 (by omega) g (Nat.le_refl g) (by omega)) c67
                · exact a6 s (by omega)
              · refine gs_aload_n (pc := 70) (gd gk_9 40 rfl) rfl ?_
                refine gs_getR (r := 83) (pc := 71) (gd gk_9 41 rfl) rfl rfl rfl (by decide) ?_
                refine gs_iload_n (pc := 74) (gd gk_9 42 rfl) rfl ?_
                refine gs_aload_n (pc := 75) (gd gk_9 43 rfl) rfl ?_
                refine gs_getR (r := 84) (pc := 76) (gd gk_9 44 rfl) rfl rfl rfl (by decide) ?_
                refine gs_iload_n (pc := 79) (gd gk_9 45 rfl) rfl ?_
                refine gs_ialoadK (g) (64) (pc := 80) (gd gk_9 46 rfl) (Or.inl rfl) rfl (by decide) (by first | rfl | (simp only [Int32.ofNat_add, Int32.ofNat_mul]; rfl) | (simp only [Int32.ofNat_add, Int32.ofNat_mul])) (by omega) ?_
                refine gs_iastoreK (g) (64) gs_sl (pc := 81) (gd gk_9 47 rfl) rfl rfl (by decide) (by first | rfl | (simp only [Int32.ofNat_add, Int32.ofNat_mul]; rfl) | (simp only [Int32.ofNat_add, Int32.ofNat_mul])) (by omega) (fun I_2 hI_2 => ?_)
                refine gs_iinc (ls2 := fun v => [(0, .ref (82)), (1, .int (Int32.ofNat k)), (2, .int (Int32.ofNat (gz_sn k h0 L L))), (3, .int (v))]) (pc := 82) (gd gk_9 48 rfl) rfl (by rw [gL_9]; decide) (fun _ => rfl) (1) rfl (fun v3_3 hv3_3 => ?_)
                obtain rfl : v3_3 = Int32.ofNat (g + 1) := hv3_3.trans (by first | rfl | (simp only [Int32.ofNat_add, Int32.ofNat_mul]; rfl) | (simp only [Int32.ofNat_add, Int32.ofNat_mul]))
                refine gs_goto (pc := 85) (gd gk_9 49 rfl) ?_
                -- end 4: stop, pc 38, locals [(0, .ref (82)), (1, .int (Int32.ofNat k)), (2, .int (Int32.ofNat (gz_sn k h0 L L))), (3, .int (Int32.ofNat (g + 1)))]
                rw [a5 g (by omega)] at c67
                exact put _ hI_2 (by rw [a5 g (by omega)]; exact gq_up_new (.inr ⟨_, a7 (by omega) g (Nat.le_refl g) (by omega), Int32.not_le.mp c67⟩))
      refine gs_iload_n (pc := 2) (gd gk_9 2 rfl) rfl ?_
      refine gs_aload_n (pc := 3) (gd gk_9 3 rfl) rfl ?_
      refine gs_getR (r := 57) (pc := 4) (gd gk_9 4 rfl) rfl rfl rfl (by decide) ?_
      refine gs_callV (as := []) (pc := 7) (gd gk_9 5 rfl) (by decide) rfl (by decide) rfl rfl (Nat.le_of_ble_eq_true rfl) gq_9_51 (Nat.le_of_ble_eq_true rfl) (c_sets (L := L) h1.2.2.1 (by omega)) (fun r_7 w_7 q_7 => ?_)
      obtain ⟨rfl, rfl⟩ := q_7
      refine gs_icmp_ge (pc := 10) (gd gk_9 6 rfl) (fun c10 => ?_) (fun c10 => ?_)
      · replace c10 : (2 ^ L) ≤ k := (zle (k := (2 ^ L)) (m := k) (by omega) (by omega)).mp c10
        -- end 1: return, pc 94, locals [(0, .ref (82)), (1, .int (Int32.ofNat k))]
        exact absurd c10 (by omega)
      · replace c10 : ¬ ((2 ^ L) ≤ k) := fun q9 => c10 ((zle (k := (2 ^ L)) (m := k) (by omega) (by omega)).mpr q9)
        refine gs_aload_n (pc := 13) (gd gk_9 7 rfl) rfl ?_
        refine gs_getR (r := 57) (pc := 14) (gd gk_9 8 rfl) rfl rfl rfl (by decide) ?_
        refine gs_iload_n (pc := 17) (gd gk_9 9 rfl) rfl ?_
        refine gs_callV (as := [.int (Int32.ofNat k)]) (pc := 18) (gd gk_9 10 rfl) (by decide) rfl (by decide) rfl rfl (Nat.le_of_ble_eq_true rfl) gq_9_52 (Nat.le_of_ble_eq_true rfl) (c_set k hkL h1.2.1 h1.2.2.1 (by omega)) (fun r_18 w_18 q_18 => ?_)
        obtain ⟨rfl, rfl⟩ := q_18
        refine gs_istore_n (ls2 := fun v => [(0, .ref (82)), (1, .int (Int32.ofNat k)), (2, .int (v))]) (pc := 21) (gd gk_9 11 rfl) (by rw [gL_9]; decide) (fun _ => rfl) (fun v2_1 hv2_1 => ?_)
        obtain rfl : v2_1 = Int32.ofNat (gz_sn k h0 L L) := hv2_1.trans (by first | rfl | (simp only [Int32.ofNat_add, Int32.ofNat_mul]; rfl) | (simp only [Int32.ofNat_add, Int32.ofNat_mul]))
        refine gs_aload_n (pc := 22) (gd gk_9 12 rfl) rfl ?_
        refine gs_getR (r := 57) (pc := 23) (gd gk_9 13 rfl) rfl rfl rfl (by decide) ?_
        refine gs_iload_n (pc := 26) (gd gk_9 14 rfl) rfl ?_
        refine gs_iconst (pc := 27) (gd gk_9 15 rfl) (0) rfl ?_
        refine gs_callV (as := [.int (Int32.ofNat (gz_sn k h0 L L)), .int (0)]) (pc := 28) (gd gk_9 16 rfl) (by decide) rfl (by decide) rfl rfl (Nat.le_of_ble_eq_true rfl) gq_9_53 (Nat.le_of_ble_eq_true rfl) (c_take2 (Int32.ofNat (gz_sn k h0 L L)) 0 h1) (fun r_28 w_28 q_28 => ?_)
        obtain ⟨rfl, I_t, rfl, t1, t2, t3⟩ := q_28
        refine gs_aload_n (pc := 31) (gd gk_9 17 rfl) rfl ?_
        refine gs_iload_n (pc := 32) (gd gk_9 18 rfl) rfl ?_
        refine gs_callV (as := [.int (Int32.ofNat (gz_sn k h0 L L))]) (pc := 33) (gd gk_9 19 rfl) (by decide) rfl (by decide) rfl rfl (Nat.le_of_ble_eq_true rfl) gq_9_10 (Nat.le_of_ble_eq_true rfl) (c_addUp (N := N) (L := L) (gz_sn k h0 L L) hsn.2 t2.1.2.2.1 hN6 t2.2.2.1 (by omega)) (fun r_33 w_33 q_33 => ?_)
        obtain ⟨rfl, I_a, rfl, u1, u2⟩ := q_33
        refine gs_iconst (pc := 36) (gd gk_9 20 rfl) (0) rfl ?_
        refine gs_istore_n (ls2 := fun v => [(0, .ref (82)), (1, .int (Int32.ofNat k)), (2, .int (Int32.ofNat (gz_sn k h0 L L))), (3, .int (v))]) (pc := 37) (gd gk_9 21 rfl) (by rw [gL_9]; decide) (fun _ => rfl) (fun v3_1 hv3_1 => ?_)
        obtain rfl : v3_1 = Int32.ofNat 0 := hv3_1.trans (by first | rfl | (simp only [Int32.ofNat_add, Int32.ofNat_mul]; rfl) | (simp only [Int32.ofNat_add, Int32.ofNat_mul]))
        -- end 2: stop, pc 38, locals [(0, .ref (82)), (1, .int (Int32.ofNat k)), (2, .int (Int32.ofNat (gz_sn k h0 L L))), (3, .int (Int32.ofNat 0))]
        have bq : gq_qf I I_t := gq_qf_tr h2 (gq_qf_w t1)
        refine inner (2 ^ N) 0 (by omega) I_a (gq_on_o (fun p hp => u2 p (by omega)) t2) (gq_qf_tr bq ⟨fun p _ _ _ => u2 p (by omega), by rw [u2 78 (by omega)], by rw [u2 79 (by omega)], u2 69 (by omega)⟩) (by rw [u2 59 (by omega), t1.1 59 (by omega) (by omega) (by omega)]; exact h3) (by rw [u2 57 (by omega), t1.2.2 6 (by omega) (by omega) (by omega)]; exact h4) (fun s hs => ?_) (fun s hs => absurd hs (Nat.not_lt_zero _)) (fun k0 s _ hs => ?_)
        · rw [u1 s hs, ← hval]
          show _ = gq_cm _ _ _ _ _ _ _ _ _
          have hk9 := gy_k_pc0 h0 (by omega) L (by omega) (by omega) _ hsu.2
          simp only [hsu.1, decide_true, Bool.not_true, Bool.false_or, decide_eq_true_eq] at hk9
          rw [gq_cm_gp, hk9, show I_t 6 2 = gz_S I 0 2 from by rw [bq.1 6 (by omega) (by omega) (by omega)]; rfl]
          congr 1
          refine gq_gp_c N (fun j hj => ?_) (fun _ _ => rfl)
          have := (t3 L (Nat.le_refl L)).2.1 j hj
          rw [hS1, h3, h4] at this
          exact this
        · rw [u2 83 (by omega), t1.1 83 (by omega) (by omega) (by omega)]; exact h5 k0 s hs
  refine gs_iconst (pc := 0) (gd gk_9 0 rfl) (0) rfl ?_
  refine gs_istore_n (ls2 := fun v => [(0, .ref (82)), (1, .int (v))]) (pc := 1) (gd gk_9 1 rfl) (by rw [gL_9]; decide) (fun _ => rfl) (fun v1_1 hv1_1 => ?_)
  obtain rfl : v1_1 = Int32.ofNat 0 := hv1_1.trans (by first | rfl | (simp only [Int32.ofNat_add, Int32.ofNat_mul]; rfl) | (simp only [Int32.ofNat_add, Int32.ofNat_mul]))
  -- end 1: stop, pc 2, locals [(0, .ref (82)), (1, .int (Int32.ofNat 0))]
  exact lp (2 ^ L) 0 (by omega) I hon ⟨fun _ _ _ _ => rfl, rfl, rfl, rfl⟩ rfl rfl (fun h => absurd h (Nat.lt_irrefl 0))
end
