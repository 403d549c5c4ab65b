/-! ===== the text: the class's readFrom ===== -/
/-- a street as its text tells it -/
def gz_rd (t : Nat → Int32) (l W : Nat) (σ : Nat → Nat → Int32) : Prop := σ 0 0 = gz_la t l 1 - 48 ∧ σ 0 1 = gz_la t l 2 - 48 ∧ σ 0 2 = gz_la t l 3 - 48 ∧ σ 0 3 = Int32.ofNat W ∧ σ 0 4 = Int32.ofNat ((l - 4 - W) / 5) ∧ (∀ j, j < W → σ 1 j = gz_wo (gz_la t l (4 + j))) ∧ ∀ k, k < (l - 4 - W) / 5 → ∀ c, c < 4 → σ (2 + c) k = gz_la t l (4 + W + 5 * k + 1 + c) - 48
theorem gz_N6 {t : Nat → Int32} {l W : Nat} (hg : ∀ j, j < l → gz_fi t l W j = true) : (l - 4 - W) / 5 ≤ 6 := by
  by_cases h : (l - 4 - W) / 5 ≤ 6
  · exact h
  · have := hg (4 + W + 30) (by omega)
    unfold gz_fi at this
    rw [if_neg (by omega), if_neg (by omega), decide_eq_false (by omega)] at this
    cases this
theorem gz_rd_ok {t : Nat → Int32} {l W : Nat} {σ : Nat → Nat → Int32} (hT : gz_wT t l W) (h4 : 4 ≤ l) (hg : ∀ j, j < l → gz_fi t l W j = true) (hr : gz_rd t l W σ) : gq_ok σ W ((l - 4 - W) / 5) := by
  obtain ⟨a0, a1, a2, a3, a4, a5, a6⟩ := hr
  have hh : ∀ p, 1 ≤ p → p < 4 → gz_rg (gz_la t l p - 48) (if p = 2 then 1 else 0) 9 = true := by
    intro p h1 h2
    have := hg p (by omega)
    unfold gz_fi gz_fh at this
    rw [if_pos h2, if_neg (by omega)] at this
    exact this
  refine ⟨a3, hT.1, a4, gz_N6 hg, ?_, ?_, ?_, fun h hh => ?_, fun k hk => ?_⟩
  · rw [a0]; exact gz_rg_t.mp (hh 1 (by omega) (by omega))
  · rw [a1]; exact gz_rg_t.mp (hh 2 (by omega) (by omega))
  · rw [a2]; exact gz_rg_t.mp (hh 3 (by omega) (by omega))
  · rw [a5 h hh]
    unfold gz_wo
    split
    · exact .inr (.inr rfl)
    · split
      · exact .inl rfl
      · exact .inr (.inl rfl)
  · have hf : ∀ c, c < 4 → gz_rg (gz_la t l (4 + W + 5 * k + 1 + c) - 48) (if c + 1 = 2 then 1 else 0) (if c + 1 = 4 then 3 else 9) = true := by
      intro c hc
      have := hg (4 + W + (5 * k + 1 + c)) (by omega)
      have h6 := gz_N6 hg
      rw [gz_fi_n (5 * k + 1 + c) (by omega), show (5 * k + 1 + c) % 5 = c + 1 by omega] at this
      unfold gz_fn at this
      rw [if_neg (by omega)] at this
      rw [show 4 + W + 5 * k + 1 + c = 4 + W + (5 * k + 1 + c) by omega]
      exact this
    refine ⟨?_, ?_, ?_, ?_⟩
    · rw [show σ 2 k = _ from a6 k hk 0 (by omega)]; exact gz_rg_t.mp (hf 0 (by omega))
    · rw [show σ 3 k = _ from a6 k hk 1 (by omega)]; exact gz_rg_t.mp (hf 1 (by omega))
    · rw [show σ 4 k = _ from a6 k hk 2 (by omega)]; exact gz_rg_t.mp (hf 2 (by omega))
    · rw [show σ 5 k = _ from a6 k hk 3 (by omega)]; exact gz_rg_t.mp (hf 3 (by omega))
theorem gz_d5 : ∀ b, b < 100 → Int32.ofNat b / 5 = Int32.ofNat (b / 5) := by decide +kernel
section
variable {V : gw_V} {n : Nat} {I : Nat → Nat → Int32} {J : Nat → Nat → Int64}
theorem c_figure2 (p l : Nat) (t : Nat → Int32) (ht : I 5 = t) (hp : p < 1000) (hl : I 4 1 = Int32.ofNat l) (h8 : l ≤ 48) : gw_E V 40 (0, [(0, .ref 4), (1, .int (Int32.ofNat p))], [], gS n I J, 0, 0) (fun v w' => v = some (.int (gz_la t l p - 48)) ∧ w' = gS n I J) := by
  subst ht
  exact c_figure p hp hl h8
theorem c_letterAt2 (p l : Nat) (t : Nat → Int32) (ht : I 5 = t) (hp : p < 1000) (hl : I 4 1 = Int32.ofNat l) (h8 : l ≤ 48) : gw_E V 39 (0, [(0, .ref 4), (1, .int (Int32.ofNat p))], [], gS n I J, 0, 0) (fun v w' => v = some (.int (gz_la t l p)) ∧ w' = gS n I J) := by
  subst ht
  exact c_letterAt p hp hl h8
theorem c_windsTold2 (l W : Nat) (t : Nat → Int32) (ht : I 5 = t) (hT : gz_wT t l W) (hl : I 4 1 = Int32.ofNat l) (h8 : l ≤ 48) : gw_E V 41 (0, [(0, .ref 4)], [], gS n I J, 0, 0) (fun v w' => v = some (.int (Int32.ofNat W)) ∧ w' = gS n I J) := by
  subst ht
  refine gs_mono ?_ (c_windsTold hl h8)
  rintro v w ⟨W2, h1, rfl, rfl⟩
  rw [gz_wT_one h1 hT]
  exact ⟨rfl, rfl⟩
abbrev cq_rf (n : Nat) (I : Nat → Nat → Int32) (J : Nat → Nat → Int64) (l W : Nat) : Option Value → gw_W → Prop := fun v w' => v = none ∧ ∃ I2, w' = gS n I2 J ∧ gz_rd (I 5) l W (gz_S I2) ∧ ∀ p, ¬ (6 ≤ p ∧ p ≤ 11) → I2 p = I p
theorem c_readFrom (l W : Nat) (hT : gz_wT (I 5) l W) (hl : I 4 1 = Int32.ofNat l) (h48 : l ≤ 48) (hW4 : 4 + W ≤ l) (hN6 : (l - 4 - W) / 5 ≤ 6) : gw_E V 32 (0, [(0, .ref 6), (1, .ref 4)], [], gS n I J, 0, 0) (cq_rf n I J l W) := by
  generalize ht : I 5 = t at hT
  have hT8 : W ≤ 8 := hT.1
  generalize hNn : (l - 4 - W) / 5 = N at hN6
  have e4 : Int32.ofNat l - 4 = Int32.ofNat (l - 4) := zsubn (b := 4) (by omega)
  have eW : Int32.ofNat (l - 4) - Int32.ofNat W = Int32.ofNat (l - 4 - W) := zsubn (by omega)
  have e5 : Int32.ofNat (l - 4 - W) / 5 = Int32.ofNat N := by rw [gz_d5 _ (by omega), hNn]
  have nlp : ∀ (r k : Nat), r + k = N → ∀ I1, (∀ p, ¬ (6 ≤ p ∧ p ≤ 11) → I1 p = I p) → I1 6 0 = gz_la t l 1 - 48 → I1 6 1 = gz_la t l 2 - 48 → I1 6 2 = gz_la t l 3 - 48 → I1 6 3 = Int32.ofNat W → I1 6 4 = Int32.ofNat N → (∀ j, j < W → I1 7 j = gz_wo (gz_la t l (4 + j))) → (∀ i, i < k → ∀ c, c < 4 → I1 (8 + c) i = gz_la t l (4 + W + 5 * i + 1 + c) - 48) → gw_E V 32 (86, [(0, .ref 6), (1, .ref 4), (2, .int (Int32.ofNat k))], [], gS n I1 J, 0, 0) (cq_rf n I J l W) := by
    intro r
    induction r with
    | zero =>
      intro k hk I1 g1 b0 b1 b2 b3 b4 b5 b6
      obtain rfl : k = N := by omega
      refine gs_iload_n (pc := 86) (gd gk_32 50 rfl) rfl ?_
      refine gs_aload_n (pc := 87) (gd gk_32 51 rfl) rfl ?_
      refine gs_getI (pc := 88) (gd gk_32 52 rfl) rfl rfl ?_
      refine gs_as (Int32.ofNat k) (b4) ?_
      refine gs_icmp_ge (pc := 91) (gd gk_32 53 rfl) (fun c91 => ?_) (fun c91 => ?_)
      · replace c91 : k ≤ k := (zle (k := k) (m := k) (by omega) (by omega)).mp c91
        -- end 1: return, pc 163, locals [(0, .ref (6)), (1, .ref (4)), (2, .int (Int32.ofNat k))]
        exact gs_ret (pc := 163) (gd gk_32 101 rfl) rfl (Nat.zero_le _) (Nat.zero_le _) (⟨rfl, I1, rfl, by
          rw [ht]
          refine ⟨b0, b1, b2, b3, by rw [hNn]; exact b4, b5, ?_⟩
          rw [hNn]
          intro i hi c hc
          have : gz_S I1 (2 + c) i = I1 (8 + c) i := by
            unfold gz_S
            rw [if_pos (by omega), show 6 + (2 + c) = 8 + c by omega]
          rw [this]
          exact b6 i hi c hc, g1⟩)
      · replace c91 : ¬ (k ≤ k) := fun q9 => c91 ((zle (k := k) (m := k) (by omega) (by omega)).mpr q9)
        -- end 2: stop, pc 94, locals [(0, .ref (6)), (1, .ref (4)), (2, .int (Int32.ofNat k))]
        exact absurd (Nat.le_refl _) c91
    | succ r ih =>
      intro k hk I1 g1 b0 b1 b2 b3 b4 b5 b6
      have T0 : I1 5 = t := by rw [g1 5 (by omega)]; exact ht
      have L0 : I1 4 1 = Int32.ofNat l := by rw [g1 4 (by omega)]; exact hl
      have fg : ∀ (I2 : Nat → Nat → Int32) c, c < 1000 - 500 → I2 5 = t → I2 4 1 = Int32.ofNat l → gw_E V 40 (0, [(0, .ref 4), (1, .int (Int32.ofNat (4 + W + k * 5) + Int32.ofNat c))], [], gS n I2 J, 0, 0) (fun v w' => v = some (.int (gz_la t l (4 + W + k * 5 + c) - 48)) ∧ w' = gS n I2 J) := fun I2 c hc h1 h2 => by
        rw [← Int32.ofNat_add]
        exact c_figure2 (4 + W + k * 5 + c) l t h1 (by omega) h2 h48
      refine gs_iload_n (pc := 86) (gd gk_32 50 rfl) rfl ?_
      refine gs_aload_n (pc := 87) (gd gk_32 51 rfl) rfl ?_
      refine gs_getI (pc := 88) (gd gk_32 52 rfl) rfl rfl ?_
      refine gs_as (Int32.ofNat N) (b4) ?_
      refine gs_icmp_ge (pc := 91) (gd gk_32 53 rfl) (fun c91 => ?_) (fun c91 => ?_)
      · replace c91 : N ≤ k := (zle (k := N) (m := k) (by omega) (by omega)).mp c91
        -- end 1: stop, pc 163, locals [(0, .ref (6)), (1, .ref (4)), (2, .int (Int32.ofNat k))]
        exact absurd c91 (by omega)
      · replace c91 : ¬ (N ≤ k) := fun q9 => c91 ((zle (k := N) (m := k) (by omega) (by omega)).mpr q9)
        refine gs_iconst (pc := 94) (gd gk_32 54 rfl) (4) rfl ?_
        refine gs_aload_n (pc := 95) (gd gk_32 55 rfl) rfl ?_
        refine gs_getI (pc := 96) (gd gk_32 56 rfl) rfl rfl ?_
        refine gs_as (Int32.ofNat W) (b3) ?_
        refine gs_iadd (pc := 99) (gd gk_32 57 rfl) ?_
        refine gs_iload_n (pc := 100) (gd gk_32 58 rfl) rfl ?_
        refine gs_iconst (pc := 101) (gd gk_32 59 rfl) (5) rfl ?_
        refine gs_imul (pc := 102) (gd gk_32 60 rfl) ?_
        refine gs_iadd (pc := 103) (gd gk_32 61 rfl) ?_
        refine gs_istore_n (ls2 := fun v => [(0, .ref (6)), (1, .ref (4)), (2, .int (Int32.ofNat k)), (3, .int (v))]) (pc := 104) (gd gk_32 62 rfl) (by rw [gL_32]; decide) (fun _ => rfl) (fun v3_1 hv3_1 => ?_)
        obtain rfl : v3_1 = Int32.ofNat ((4 + W) + (k * 5)) := hv3_1.trans (by first | rfl | (simp only [Int32.ofNat_add, Int32.ofNat_mul]; rfl) | (simp only [Int32.ofNat_add, Int32.ofNat_mul]))
        refine gs_aload_n (pc := 105) (gd gk_32 63 rfl) rfl ?_
        refine gs_getR (r := 8) (pc := 106) (gd gk_32 64 rfl) rfl rfl rfl (by decide) ?_
        refine gs_iload_n (pc := 109) (gd gk_32 65 rfl) rfl ?_
        refine gs_aload_n (pc := 110) (gd gk_32 66 rfl) rfl ?_
        refine gs_iload_n (pc := 111) (gd gk_32 67 rfl) rfl ?_
        refine gs_iconst (pc := 112) (gd gk_32 68 rfl) (1) rfl ?_
        refine gs_iadd (pc := 113) (gd gk_32 69 rfl) ?_
        refine gs_callV (as := [.int ((Int32.ofNat ((4 + W) + (k * 5)) + 1))]) (pc := 114) (gd gk_32 70 rfl) (by decide) rfl (by decide) rfl rfl (Nat.le_of_ble_eq_true rfl) gq_32_40 (Nat.le_of_ble_eq_true rfl) (fg I1 1 (by omega) T0 L0) (fun r_114 w_114 q_114 => ?_)
        obtain ⟨rfl, rfl⟩ := q_114
        refine gs_iastoreK (k) (6) gs_sl (pc := 117) (gd gk_32 71 rfl) rfl rfl (by decide) (by first | rfl | (simp only [Int32.ofNat_add, Int32.ofNat_mul]; rfl) | (simp only [Int32.ofNat_add, Int32.ofNat_mul])) (by omega) (fun I_1 hI_1 => ?_)
        refine gs_aload_n (pc := 118) (gd gk_32 72 rfl) rfl ?_
        refine gs_getR (r := 9) (pc := 119) (gd gk_32 73 rfl) rfl rfl rfl (by decide) ?_
        refine gs_iload_n (pc := 122) (gd gk_32 74 rfl) rfl ?_
        refine gs_aload_n (pc := 123) (gd gk_32 75 rfl) rfl ?_
        refine gs_iload_n (pc := 124) (gd gk_32 76 rfl) rfl ?_
        refine gs_iconst (pc := 125) (gd gk_32 77 rfl) (2) rfl ?_
        refine gs_iadd (pc := 126) (gd gk_32 78 rfl) ?_
        refine gs_callV (as := [.int ((Int32.ofNat ((4 + W) + (k * 5)) + 2))]) (pc := 127) (gd gk_32 79 rfl) (by decide) rfl (by decide) rfl rfl (Nat.le_of_ble_eq_true rfl) gq_32_40 (Nat.le_of_ble_eq_true rfl) (fg I_1 2 (by omega) (by rw [hI_1, gw_u_o (by omega)]; exact T0) (by rw [hI_1, gw_u_o (by omega)]; exact L0)) (fun r_127 w_127 q_127 => ?_)
        obtain ⟨rfl, rfl⟩ := q_127
        refine gs_iastoreK (k) (6) gs_sl (pc := 130) (gd gk_32 80 rfl) rfl rfl (by decide) (by first | rfl | (simp only [Int32.ofNat_add, Int32.ofNat_mul]; rfl) | (simp only [Int32.ofNat_add, Int32.ofNat_mul])) (by omega) (fun I_2 hI_2 => ?_)
        refine gs_aload_n (pc := 131) (gd gk_32 81 rfl) rfl ?_
        refine gs_getR (r := 10) (pc := 132) (gd gk_32 82 rfl) rfl rfl rfl (by decide) ?_
        refine gs_iload_n (pc := 135) (gd gk_32 83 rfl) rfl ?_
        refine gs_aload_n (pc := 136) (gd gk_32 84 rfl) rfl ?_
        refine gs_iload_n (pc := 137) (gd gk_32 85 rfl) rfl ?_
        refine gs_iconst (pc := 138) (gd gk_32 86 rfl) (3) rfl ?_
        refine gs_iadd (pc := 139) (gd gk_32 87 rfl) ?_
        refine gs_callV (as := [.int ((Int32.ofNat ((4 + W) + (k * 5)) + 3))]) (pc := 140) (gd gk_32 88 rfl) (by decide) rfl (by decide) rfl rfl (Nat.le_of_ble_eq_true rfl) gq_32_40 (Nat.le_of_ble_eq_true rfl) (fg I_2 3 (by omega) (by rw [hI_2, gw_u_o (by omega), hI_1, gw_u_o (by omega)]; exact T0) (by rw [hI_2, gw_u_o (by omega), hI_1, gw_u_o (by omega)]; exact L0)) (fun r_140 w_140 q_140 => ?_)
        obtain ⟨rfl, rfl⟩ := q_140
        refine gs_iastoreK (k) (6) gs_sl (pc := 143) (gd gk_32 89 rfl) rfl rfl (by decide) (by first | rfl | (simp only [Int32.ofNat_add, Int32.ofNat_mul]; rfl) | (simp only [Int32.ofNat_add, Int32.ofNat_mul])) (by omega) (fun I_3 hI_3 => ?_)
        refine gs_aload_n (pc := 144) (gd gk_32 90 rfl) rfl ?_
        refine gs_getR (r := 11) (pc := 145) (gd gk_32 91 rfl) rfl rfl rfl (by decide) ?_
        refine gs_iload_n (pc := 148) (gd gk_32 92 rfl) rfl ?_
        refine gs_aload_n (pc := 149) (gd gk_32 93 rfl) rfl ?_
        refine gs_iload_n (pc := 150) (gd gk_32 94 rfl) rfl ?_
        refine gs_iconst (pc := 151) (gd gk_32 95 rfl) (4) rfl ?_
        refine gs_iadd (pc := 152) (gd gk_32 96 rfl) ?_
        refine gs_callV (as := [.int ((Int32.ofNat ((4 + W) + (k * 5)) + 4))]) (pc := 153) (gd gk_32 97 rfl) (by decide) rfl (by decide) rfl rfl (Nat.le_of_ble_eq_true rfl) gq_32_40 (Nat.le_of_ble_eq_true rfl) (fg I_3 4 (by omega) (by rw [hI_3, gw_u_o (by omega), hI_2, gw_u_o (by omega), hI_1, gw_u_o (by omega)]; exact T0) (by rw [hI_3, gw_u_o (by omega), hI_2, gw_u_o (by omega), hI_1, gw_u_o (by omega)]; exact L0)) (fun r_153 w_153 q_153 => ?_)
        obtain ⟨rfl, rfl⟩ := q_153
        refine gs_iastoreK (k) (6) gs_sl (pc := 156) (gd gk_32 98 rfl) rfl rfl (by decide) (by first | rfl | (simp only [Int32.ofNat_add, Int32.ofNat_mul]; rfl) | (simp only [Int32.ofNat_add, Int32.ofNat_mul])) (by omega) (fun I_4 hI_4 => ?_)
        refine gs_iinc (ls2 := fun v => [(0, .ref (6)), (1, .ref (4)), (2, .int (v)), (3, .int (Int32.ofNat ((4 + W) + (k * 5))))]) (pc := 157) (gd gk_32 99 rfl) rfl (by rw [gL_32]; decide) (fun _ => rfl) (1) rfl (fun v2_1 hv2_1 => ?_)
        obtain rfl : v2_1 = Int32.ofNat (k + 1) := hv2_1.trans (by first | rfl | (simp only [Int32.ofNat_add, Int32.ofNat_mul]; rfl) | (simp only [Int32.ofNat_add, Int32.ofNat_mul]))
        refine gs_goto (pc := 160) (gd gk_32 100 rfl) ?_
        -- end 2: stop, pc 86, locals [(0, .ref (6)), (1, .ref (4)), (2, .int (Int32.ofNat (k + 1))), (3, .int (Int32.ofNat ((4 + W) + (k * 5))))]
        have o : ∀ p, ¬ (8 ≤ p ∧ p ≤ 11) → I_4 p = I1 p := fun p hp => by rw [hI_4, gw_u_o (by omega), hI_3, gw_u_o (by omega), hI_2, gw_u_o (by omega), hI_1, gw_u_o (by omega)]
        have w0 : I_4 8 = upd (I1 8) k (gz_la t l (4 + W + k * 5 + 1) - 48) := by rw [hI_4, gw_u_o (by omega), hI_3, gw_u_o (by omega), hI_2, gw_u_o (by omega), hI_1, gw_u_s]
        have w1 : I_4 9 = upd (I1 9) k (gz_la t l (4 + W + k * 5 + 2) - 48) := by rw [hI_4, gw_u_o (by omega), hI_3, gw_u_o (by omega), hI_2, gw_u_s, hI_1, gw_u_o (by omega)]
        have w2 : I_4 10 = upd (I1 10) k (gz_la t l (4 + W + k * 5 + 3) - 48) := by rw [hI_4, gw_u_o (by omega), hI_3, gw_u_s, hI_2, gw_u_o (by omega), hI_1, gw_u_o (by omega)]
        have w3 : I_4 11 = upd (I1 11) k (gz_la t l (4 + W + k * 5 + 4) - 48) := by rw [hI_4, gw_u_s, hI_3, gw_u_o (by omega), hI_2, gw_u_o (by omega), hI_1, gw_u_o (by omega)]
        refine gs_drop [0, 1, 2] rfl (ih (k + 1) (by omega) I_4 (fun p hp => by rw [o p (by omega)]; exact g1 p hp) (by rw [o 6 (by omega)]; exact b0) (by rw [o 6 (by omega)]; exact b1) (by rw [o 6 (by omega)]; exact b2) (by rw [o 6 (by omega)]; exact b3) (by rw [o 6 (by omega)]; exact b4) (fun j hj => by rw [o 7 (by omega)]; exact b5 j hj) (fun i hi c hc => ?_))
        have h4 : c = 0 ∨ c = 1 ∨ c = 2 ∨ c = 3 := by omega
        by_cases e : i = k
        · subst e
          rcases h4 with e | e | e | e <;> subst e
          · show I_4 8 i = _; rw [w0]; unfold upd; rw [if_pos rfl, show 4 + W + i * 5 + 1 = 4 + W + 5 * i + 1 + 0 by omega]
          · show I_4 9 i = _; rw [w1]; unfold upd; rw [if_pos rfl, show 4 + W + i * 5 + 2 = 4 + W + 5 * i + 1 + 1 by omega]
          · show I_4 10 i = _; rw [w2]; unfold upd; rw [if_pos rfl, show 4 + W + i * 5 + 3 = 4 + W + 5 * i + 1 + 2 by omega]
          · show I_4 11 i = _; rw [w3]; unfold upd; rw [if_pos rfl, show 4 + W + i * 5 + 4 = 4 + W + 5 * i + 1 + 3 by omega]
        · have b9 := b6 i (by omega) c hc
          rcases h4 with e9 | e9 | e9 | e9 <;> subst e9
          · show I_4 8 i = _; rw [w0]; unfold upd; rw [if_neg e]; exact b9
          · show I_4 9 i = _; rw [w1]; unfold upd; rw [if_neg e]; exact b9
          · show I_4 10 i = _; rw [w2]; unfold upd; rw [if_neg e]; exact b9
          · show I_4 11 i = _; rw [w3]; unfold upd; rw [if_neg e]; exact b9
  have wlp : ∀ (r k : Nat), r + k = W → ∀ I1, (∀ p, ¬ (6 ≤ p ∧ p ≤ 11) → I1 p = I p) → I1 6 0 = gz_la t l 1 - 48 → I1 6 1 = gz_la t l 2 - 48 → I1 6 2 = gz_la t l 3 - 48 → I1 6 3 = Int32.ofNat W → (∀ j, j < k → I1 7 j = gz_wo (gz_la t l (4 + j))) → gw_E V 32 (37, [(0, .ref 6), (1, .ref 4), (2, .int (Int32.ofNat k))], [], gS n I1 J, 0, 0) (cq_rf n I J l W) := by
    intro r
    induction r with
    | zero =>
      intro k hk I1 g1 b0 b1 b2 b3 b5
      obtain rfl : k = W := by omega
      have L0 : I1 4 1 = Int32.ofNat l := by rw [g1 4 (by omega)]; exact hl
      refine gs_iload_n (pc := 37) (gd gk_32 21 rfl) rfl ?_
      refine gs_aload_n (pc := 38) (gd gk_32 22 rfl) rfl ?_
      refine gs_getI (pc := 39) (gd gk_32 23 rfl) rfl rfl ?_
      refine gs_as (Int32.ofNat k) (b3) ?_
      refine gs_icmp_ge (pc := 42) (gd gk_32 24 rfl) (fun c42 => ?_) (fun c42 => ?_)
      · replace c42 : k ≤ k := (zle (k := k) (m := k) (by omega) (by omega)).mp c42
        refine gs_aload_n (pc := 67) (gd gk_32 37 rfl) rfl ?_
        refine gs_aload_n (pc := 68) (gd gk_32 38 rfl) rfl ?_
        refine gs_getI (pc := 69) (gd gk_32 39 rfl) rfl rfl ?_
        refine gs_as (Int32.ofNat l) (L0) ?_
        refine gs_iconst (pc := 72) (gd gk_32 40 rfl) (4) rfl ?_
        refine gs_isub (pc := 73) (gd gk_32 41 rfl) ?_
        refine gs_as (Int32.ofNat (l - 4)) (e4) ?_
        refine gs_aload_n (pc := 74) (gd gk_32 42 rfl) rfl ?_
        refine gs_getI (pc := 75) (gd gk_32 43 rfl) rfl rfl ?_
        refine gs_as (Int32.ofNat k) (b3) ?_
        refine gs_isub (pc := 78) (gd gk_32 44 rfl) ?_
        refine gs_as (Int32.ofNat (l - 4 - k)) (eW) ?_
        refine gs_iconst (pc := 79) (gd gk_32 45 rfl) (5) rfl ?_
        refine gs_idiv (pc := 80) (gd gk_32 46 rfl) (by decide) ?_
        refine gs_as (Int32.ofNat N) (e5) ?_
        refine gs_putI (pc := 81) (gd gk_32 47 rfl) rfl rfl rfl rfl (fun I_1 hI_1 => ?_)
        refine gs_iconst (pc := 84) (gd gk_32 48 rfl) (0) rfl ?_
        refine gs_istore_n (ls2 := fun v => [(0, .ref (6)), (1, .ref (4)), (2, .int (v))]) (pc := 85) (gd gk_32 49 rfl) (by rw [gL_32]; decide) (fun _ => rfl) (fun v2_1 hv2_1 => ?_)
        obtain rfl : v2_1 = Int32.ofNat 0 := hv2_1.trans (by first | rfl | (simp only [Int32.ofNat_add, Int32.ofNat_mul]; rfl) | (simp only [Int32.ofNat_add, Int32.ofNat_mul]))
        -- end 1: stop, pc 86, locals [(0, .ref (6)), (1, .ref (4)), (2, .int (Int32.ofNat 0))]
        have o : ∀ q, q ≠ 4 → I_1 6 q = I1 6 q := fun q hq => by rw [hI_1, gw_u_s]; unfold upd; rw [if_neg hq]
        exact nlp N 0 (by omega) I_1 (fun p hp => by rw [hI_1, gw_u_o (by omega)]; exact g1 p hp) (by rw [o 0 (by omega)]; exact b0) (by rw [o 1 (by omega)]; exact b1) (by rw [o 2 (by omega)]; exact b2) (by rw [o 3 (by omega)]; exact b3) (by rw [hI_1, gw_u_s]; unfold upd; rw [if_pos rfl]) (fun j hj => by rw [hI_1, gw_u_o (by omega)]; exact b5 j hj) (fun i hi => absurd hi (Nat.not_lt_zero _))
      · replace c42 : ¬ (k ≤ k) := fun q9 => c42 ((zle (k := k) (m := k) (by omega) (by omega)).mpr q9)
        -- end 2: stop, pc 45, locals [(0, .ref (6)), (1, .ref (4)), (2, .int (Int32.ofNat k))]
        exact absurd (Nat.le_refl _) c42
    | succ r ih =>
      intro k hk I1 g1 b0 b1 b2 b3 b5
      have T0 : I1 5 = t := by rw [g1 5 (by omega)]; exact ht
      have L0 : I1 4 1 = Int32.ofNat l := by rw [g1 4 (by omega)]; exact hl
      refine gs_iload_n (pc := 37) (gd gk_32 21 rfl) rfl ?_
      refine gs_aload_n (pc := 38) (gd gk_32 22 rfl) rfl ?_
      refine gs_getI (pc := 39) (gd gk_32 23 rfl) rfl rfl ?_
      refine gs_as (Int32.ofNat W) (b3) ?_
      refine gs_icmp_ge (pc := 42) (gd gk_32 24 rfl) (fun c42 => ?_) (fun c42 => ?_)
      · replace c42 : W ≤ k := (zle (k := W) (m := k) (by omega) (by omega)).mp c42
        -- end 1: stop, pc 67, locals [(0, .ref (6)), (1, .ref (4)), (2, .int (Int32.ofNat k))]
        exact absurd c42 (by omega)
      · replace c42 : ¬ (W ≤ k) := fun q9 => c42 ((zle (k := W) (m := k) (by omega) (by omega)).mpr q9)
        refine gs_aload_n (pc := 45) (gd gk_32 25 rfl) rfl ?_
        refine gs_getR (r := 7) (pc := 46) (gd gk_32 26 rfl) rfl rfl rfl (by decide) ?_
        refine gs_iload_n (pc := 49) (gd gk_32 27 rfl) rfl ?_
        refine gs_aload_n (pc := 50) (gd gk_32 28 rfl) rfl ?_
        refine gs_iconst (pc := 51) (gd gk_32 29 rfl) (4) rfl ?_
        refine gs_iload_n (pc := 52) (gd gk_32 30 rfl) rfl ?_
        refine gs_iadd (pc := 53) (gd gk_32 31 rfl) ?_
        refine gs_callV (as := [.int ((4 + Int32.ofNat k))]) (pc := 54) (gd gk_32 32 rfl) (by decide) rfl (by decide) rfl rfl (Nat.le_of_ble_eq_true rfl) gq_32_39 (Nat.le_of_ble_eq_true rfl) ((by have := c_letterAt2 (V := V) (n := n) (J := J) (4 + k) l t T0 (by omega) L0 h48; rw [Int32.ofNat_add] at this; exact this)) (fun r_54 w_54 q_54 => ?_)
        obtain ⟨rfl, rfl⟩ := q_54
        refine gs_callS (as := [.int ((gz_la t l (4 + k)))]) (pc := 57) (gd gk_32 33 rfl) (by decide) rfl rfl (Nat.le_of_ble_eq_true rfl) gq_32_33 (Nat.le_of_ble_eq_true rfl) (c_windOf _) (fun r_57 w_57 q_57 => ?_)
        obtain ⟨rfl, rfl⟩ := q_57
        refine gs_iastoreK (k) (8) gs_sl (pc := 60) (gd gk_32 34 rfl) rfl rfl (by decide) (by first | rfl | (simp only [Int32.ofNat_add, Int32.ofNat_mul]; rfl) | (simp only [Int32.ofNat_add, Int32.ofNat_mul])) (by omega) (fun I_1 hI_1 => ?_)
        refine gs_iinc (ls2 := fun v => [(0, .ref (6)), (1, .ref (4)), (2, .int (v))]) (pc := 61) (gd gk_32 35 rfl) rfl (by rw [gL_32]; decide) (fun _ => rfl) (1) rfl (fun v2_1 hv2_1 => ?_)
        obtain rfl : v2_1 = Int32.ofNat (k + 1) := hv2_1.trans (by first | rfl | (simp only [Int32.ofNat_add, Int32.ofNat_mul]; rfl) | (simp only [Int32.ofNat_add, Int32.ofNat_mul]))
        refine gs_goto (pc := 64) (gd gk_32 36 rfl) ?_
        -- end 2: stop, pc 37, locals [(0, .ref (6)), (1, .ref (4)), (2, .int (Int32.ofNat (k + 1)))]
        have o : ∀ p, p ≠ 7 → I_1 p = I1 p := fun p hp => by rw [hI_1, gw_u_o hp]
        refine ih (k + 1) (by omega) I_1 (fun p hp => by rw [o p (by omega)]; exact g1 p hp) (by rw [o 6 (by omega)]; exact b0) (by rw [o 6 (by omega)]; exact b1) (by rw [o 6 (by omega)]; exact b2) (by rw [o 6 (by omega)]; exact b3) (fun j hj => ?_)
        rw [hI_1, gw_u_s]; unfold upd
        by_cases e : j = k
        · rw [if_pos e, e]
        · rw [if_neg e]; exact b5 j (by omega)
  refine gs_aload_n (pc := 0) (gd gk_32 0 rfl) rfl ?_
  refine gs_aload_n (pc := 1) (gd gk_32 1 rfl) rfl ?_
  refine gs_iconst (pc := 2) (gd gk_32 2 rfl) (1) rfl ?_
  refine gs_callV (as := [.int (1)]) (pc := 3) (gd gk_32 3 rfl) (by decide) rfl (by decide) rfl rfl (Nat.le_of_ble_eq_true rfl) gq_32_40 (Nat.le_of_ble_eq_true rfl) (c_figure2 1 l t ht (by omega) hl h48) (fun r_3 w_3 q_3 => ?_)
  obtain ⟨rfl, rfl⟩ := q_3
  refine gs_putI (pc := 6) (gd gk_32 4 rfl) rfl rfl rfl rfl (fun I_1 hI_1 => ?_)
  refine gs_aload_n (pc := 9) (gd gk_32 5 rfl) rfl ?_
  refine gs_aload_n (pc := 10) (gd gk_32 6 rfl) rfl ?_
  refine gs_iconst (pc := 11) (gd gk_32 7 rfl) (2) rfl ?_
  refine gs_callV (as := [.int (2)]) (pc := 12) (gd gk_32 8 rfl) (by decide) rfl (by decide) rfl rfl (Nat.le_of_ble_eq_true rfl) gq_32_40 (Nat.le_of_ble_eq_true rfl) (c_figure2 2 l t (by rw [hI_1, gw_u_o (by omega)]; exact ht) (by omega) (by rw [hI_1, gw_u_o (by omega)]; exact hl) h48) (fun r_12 w_12 q_12 => ?_)
  obtain ⟨rfl, rfl⟩ := q_12
  refine gs_putI (pc := 15) (gd gk_32 9 rfl) rfl rfl rfl rfl (fun I_2 hI_2 => ?_)
  refine gs_aload_n (pc := 18) (gd gk_32 10 rfl) rfl ?_
  refine gs_aload_n (pc := 19) (gd gk_32 11 rfl) rfl ?_
  refine gs_iconst (pc := 20) (gd gk_32 12 rfl) (3) rfl ?_
  refine gs_callV (as := [.int (3)]) (pc := 21) (gd gk_32 13 rfl) (by decide) rfl (by decide) rfl rfl (Nat.le_of_ble_eq_true rfl) gq_32_40 (Nat.le_of_ble_eq_true rfl) (c_figure2 3 l t (by rw [hI_2, gw_u_o (by omega), hI_1, gw_u_o (by omega)]; exact ht) (by omega) (by rw [hI_2, gw_u_o (by omega), hI_1, gw_u_o (by omega)]; exact hl) h48) (fun r_21 w_21 q_21 => ?_)
  obtain ⟨rfl, rfl⟩ := q_21
  refine gs_putI (pc := 24) (gd gk_32 14 rfl) rfl rfl rfl rfl (fun I_3 hI_3 => ?_)
  refine gs_aload_n (pc := 27) (gd gk_32 15 rfl) rfl ?_
  refine gs_aload_n (pc := 28) (gd gk_32 16 rfl) rfl ?_
  refine gs_callV (as := []) (pc := 29) (gd gk_32 17 rfl) (by decide) rfl (by decide) rfl rfl (Nat.le_of_ble_eq_true rfl) gq_32_41 (Nat.le_of_ble_eq_true rfl) (c_windsTold2 l W t (by rw [hI_3, gw_u_o (by omega), hI_2, gw_u_o (by omega), hI_1, gw_u_o (by omega)]; exact ht) hT (by rw [hI_3, gw_u_o (by omega), hI_2, gw_u_o (by omega), hI_1, gw_u_o (by omega)]; exact hl) h48) (fun r_29 w_29 q_29 => ?_)
  obtain ⟨rfl, rfl⟩ := q_29
  refine gs_putI (pc := 32) (gd gk_32 18 rfl) rfl rfl rfl rfl (fun I_4 hI_4 => ?_)
  refine gs_iconst (pc := 35) (gd gk_32 19 rfl) (0) rfl ?_
  refine gs_istore_n (ls2 := fun v => [(0, .ref (6)), (1, .ref (4)), (2, .int (v))]) (pc := 36) (gd gk_32 20 rfl) (by rw [gL_32]; decide) (fun _ => rfl) (fun v2_1 hv2_1 => ?_)
  obtain rfl : v2_1 = Int32.ofNat 0 := hv2_1.trans (by first | rfl | (simp only [Int32.ofNat_add, Int32.ofNat_mul]; rfl) | (simp only [Int32.ofNat_add, Int32.ofNat_mul]))
  -- end 1: stop, pc 37, locals [(0, .ref (6)), (1, .ref (4)), (2, .int (Int32.ofNat 0))]
  have e6 : I_4 6 0 = gz_la t l 1 - 48 ∧ I_4 6 1 = gz_la t l 2 - 48 ∧ I_4 6 2 = gz_la t l 3 - 48 ∧ I_4 6 3 = Int32.ofNat W := by
    refine ⟨?_, ?_, ?_, ?_⟩ <;> rw [hI_4, gw_u_s, hI_3, gw_u_s, hI_2, gw_u_s, hI_1, gw_u_s] <;> simp [upd]
  exact wlp W 0 (by omega) I_4 (fun p hp => by rw [hI_4, gw_u_o (by omega), hI_3, gw_u_o (by omega), hI_2, gw_u_o (by omega), hI_1, gw_u_o (by omega)]) e6.1 e6.2.1 e6.2.2.1 e6.2.2.2 (fun j hj => absurd hj (Nat.not_lt_zero _))
end
