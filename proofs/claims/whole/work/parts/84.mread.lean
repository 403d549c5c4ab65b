/-! ===== the text: the reference's readNose, readText ===== -/
theorem gz_wT_ex (t : Nat → Int32) (l : Nat) : ∃ W, gz_wT t l W := by
  have : ∀ (m k : Nat), m + k = 8 → (∀ j, j < k → gz_iw (gz_la t l (4 + j)) = true) → ∃ W, gz_wT t l W := by
    intro m
    induction m with
    | zero => intro k hk h; exact ⟨k, by omega, h, .inl (by omega)⟩
    | succ m ih =>
      intro k hk h
      cases e : gz_iw (gz_la t l (4 + k))
      · exact ⟨k, by omega, h, .inr e⟩
      · refine ih (k + 1) (by omega) (fun j hj => ?_)
        by_cases q : j = k
        · rw [q]; exact e
        · exact h j (by omega)
  exact this 8 0 rfl (fun j hj => absurd hj (Nat.not_lt_zero _))
/-- all that was read fits; or the fault is where it must be -/
def gm_iv (t : Nat → Int32) (l W : Nat) (s : Nat × Option Nat) : Prop := s.1 ≤ l ∧ (s.2 = none → ∀ j, j < s.1 → gz_fi t l W j = true) ∧ ∀ q, s.2 = some q → q ≤ l ∧ (∀ j, j < q → gz_fi t l W j = true) ∧ (q < l → gz_fi t l W q = false) ∧ (q = l → gz_wh l W = false)
theorem gm_iv_so {t : Nat → Int32} {l W : Nat} {s : Nat × Option Nat} (h : gm_iv t l W s) : gm_so l s := ⟨h.1, fun q hq => (h.2.2 q hq).1⟩
theorem gm_iv_x {t : Nat → Int32} {l W : Nat} {a b : Int32} {s : Nat × Option Nat} (ha : 0 ≤ a) (h : gm_iv t l W s) (hfi : s.2 = none → s.1 < l → gz_fi t l W s.1 = gz_rg (gz_la t l s.1 - 48) a b) (hwh : s.2 = none → s.1 = l → gz_wh l W = false) : gm_iv t l W (gm_sx t l a b s) := by
  have hso := gm_sx_o (t := t) (b := b) ha (gm_iv_so h)
  obtain ⟨p, f⟩ := s
  obtain ⟨h1, h2, h3⟩ := h
  cases f with
  | none =>
    have h2 : ∀ j, j < p → gz_fi t l W j = true := h2 rfl
    have h1 : p ≤ l := h1
    have hfi : p < l → gz_fi t l W p = gz_rg (gz_la t l p - 48) a b := hfi rfl
    have hwh : p = l → gz_wh l W = false := hwh rfl
    revert hso
    show gm_so l (if gz_rg (gz_la t l p - 48) a b then (p + 1, none) else (p, some p)) → gm_iv t l W (if gz_rg (gz_la t l p - 48) a b then (p + 1, none) else (p, some p))
    by_cases e : gz_rg (gz_la t l p - 48) a b = true
    · rw [if_pos e]
      intro hso
      have hp : p + 1 ≤ l := hso.1
      refine ⟨hp, fun _ j hj => ?_, fun q hq => by cases hq⟩
      have hj : j < p + 1 := hj
      by_cases q : j = p
      · rw [q, hfi (by omega)]; exact e
      · exact h2 j (by omega)
    · rw [if_neg e]
      intro hso
      refine ⟨h1, fun q => (by cases q), fun q hq => ?_⟩
      cases hq
      exact ⟨h1, h2, fun hp => by rw [hfi hp]; simpa using e, hwh⟩
  | some q => exact ⟨h1, h2, h3⟩
theorem gm_iv_fp {t : Nat → Int32} {l W q p : Nat} (h : gm_iv t l W (p, some q)) : gz_fp t l W (Int32.ofNat q) := by
  obtain ⟨h1, h2, h3, h4⟩ := h.2.2 q rfl
  by_cases e : q < l
  · exact .inl ⟨q, e, h3 e, h2, rfl⟩
  · have e : q = l := by omega
    subst e
    exact .inr ⟨h2, by rw [if_neg (by rw [h4 rfl]; decide)]⟩
theorem gz_fi_n {t : Nat → Int32} {l W : Nat} (b : Nat) (hb : b < 30) : gz_fi t l W (4 + W + b) = gz_fn t l (4 + W + b) (b % 5) := by
  unfold gz_fi
  rw [if_neg (by omega), if_neg (by omega), show 4 + W + b - 4 - W = b by omega, decide_eq_true hb, Bool.true_and]
theorem gz_wh_n {W : Nat} (b : Nat) : gz_wh (4 + W + b) W = decide (b % 5 = 0) := by
  unfold gz_wh
  rw [decide_eq_true (by omega), show 4 + W + b - 4 - W = b by omega, Bool.true_and]
section
variable {V : gw_V} {n : Nat} {I : Nat → Nat → Int32} {J : Nat → Nat → Int64}
theorem gm_at_o {I2 : Nat → Nat → Int32} {s : Nat × Option Nat} (h : I2 126 = I 126) (ha : gm_at I s) : gm_at I2 s := ⟨by rw [h]; exact ha.1, by rw [h]; exact ha.2⟩
theorem m_figure2 (a b : Int32) (l : Nat) (s : Nat × Option Nat) (t : Nat → Int32) (ht : I 134 = t) (ha : 0 ≤ a) (hl : I 126 15 = Int32.ofNat l) (h48 : l ≤ 48) (hs : gm_so l s) (hat : gm_at I s) : gw_E V 112 (0, [(0, .ref 126), (1, .int a), (2, .int b)], [], gS n I J, 0, 0) (fun v w' => v = some (.int (gm_sv t l a b s)) ∧ ∃ I2, w' = gS n I2 J ∧ gm_at I2 (gm_sx t l a b s) ∧ (∀ q, q ≠ 126 → I2 q = I q) ∧ ∀ q, q ≠ 16 → q ≠ 17 → I2 126 q = I 126 q) := by
  subst ht
  exact m_figure a b l s ha hl h48 hs hat
/-- the four figures of a nose -/
def gm_n1 (t : Nat → Int32) (l p : Nat) : Nat × Option Nat := gm_sx t l 0 9 (p + 1, none)
def gm_n2 (t : Nat → Int32) (l p : Nat) : Nat × Option Nat := gm_sx t l 1 9 (gm_n1 t l p)
def gm_n3 (t : Nat → Int32) (l p : Nat) : Nat × Option Nat := gm_sx t l 0 9 (gm_n2 t l p)
def gm_n4 (t : Nat → Int32) (l p : Nat) : Nat × Option Nat := gm_sx t l 0 3 (gm_n3 t l p)
theorem m_readNose (t : Nat → Int32) (ht : I 134 = t) (l p k : Nat) (hl : I 126 15 = Int32.ofNat l) (h48 : l ≤ 48) (hp : p < l) (hat : gm_at I (p, none)) (hk : I 126 12 = Int32.ofNat k) (hk6 : k < 6) : gw_E V 115 (0, [(0, .ref 126)], [], gS n I J, 0, 0) (fun v w' => v = none ∧ ∃ I2, w' = gS n I2 J ∧ gm_at I2 (gm_n4 t l p) ∧ I2 126 12 = Int32.ofNat (k + 1) ∧ I2 132 (4 * k) = gm_sv t l 0 9 (p + 1, none) ∧ I2 132 (4 * k + 1) = gm_sv t l 1 9 (gm_n1 t l p) ∧ I2 132 (4 * k + 2) = gm_sv t l 0 9 (gm_n2 t l p) ∧ I2 132 (4 * k + 3) = gm_sv t l 0 3 (gm_n3 t l p) ∧ (∀ q, q < 4 * k → I2 132 q = I 132 q) ∧ (∀ q, q ≠ 126 → q ≠ 132 → I2 q = I q) ∧ ∀ q, q ≠ 12 → q ≠ 16 → q ≠ 17 → I2 126 q = I 126 q) := by
  have k1 : I 126 16 = Int32.ofNat p := hat.1
  have s0 : gm_so l (p + 1, none) := ⟨hp, fun q hq => by cases hq⟩
  have s1 : gm_so l (gm_n1 t l p) := gm_sx_o (by decide) s0
  have s2 : gm_so l (gm_n2 t l p) := gm_sx_o (by decide) s1
  have s3 : gm_so l (gm_n3 t l p) := gm_sx_o (by decide) s2
  refine gs_aload_n (pc := 0) (gd gk_115 0 rfl) rfl ?_
  refine gs_dup (pc := 1) (gd gk_115 1 rfl) rfl ?_
  refine gs_getI (pc := 2) (gd gk_115 2 rfl) rfl rfl ?_
  refine gs_as (Int32.ofNat p) (k1) ?_
  refine gs_iconst (pc := 5) (gd gk_115 3 rfl) (1) rfl ?_
  refine gs_iadd (pc := 6) (gd gk_115 4 rfl) ?_
  refine gs_putI (pc := 7) (gd gk_115 5 rfl) rfl rfl rfl rfl (fun I_1 hI_1 => ?_)
  have A0 : gm_at I_1 (p + 1, none) := ⟨by rw [hI_1, gw_u_s]; unfold upd; rw [if_pos rfl, zsucc], by rw [hI_1, gw_u_s]; unfold upd; rw [if_neg (by omega)]; exact hat.2⟩
  have T0 : I_1 134 = t := by rw [hI_1, gw_u_o (by omega)]; exact ht
  have L0 : I_1 126 15 = Int32.ofNat l := by rw [hI_1, gw_u_s]; unfold upd; rw [if_neg (by omega)]; exact hl
  refine gs_iconst (pc := 10) (gd gk_115 6 rfl) (4) rfl ?_
  refine gs_aload_n (pc := 11) (gd gk_115 7 rfl) rfl ?_
  refine gs_getI (pc := 12) (gd gk_115 8 rfl) rfl rfl ?_
  refine gs_as (Int32.ofNat k) (by rw [hI_1, gw_u_s]; unfold upd; rw [if_neg (by omega)]; exact hk) ?_
  refine gs_imul (pc := 15) (gd gk_115 9 rfl) ?_
  refine gs_istore_n (ls2 := fun v => [(0, .ref (126)), (1, .int (v))]) (pc := 16) (gd gk_115 10 rfl) (by rw [gL_115]; decide) (fun _ => rfl) (fun v1_1 hv1_1 => ?_)
  obtain rfl : v1_1 = Int32.ofNat (4 * k) := hv1_1.trans (by first | rfl | (simp only [Int32.ofNat_add, Int32.ofNat_mul]; rfl) | (simp only [Int32.ofNat_add, Int32.ofNat_mul]))
  refine gs_aload_n (pc := 17) (gd gk_115 11 rfl) rfl ?_
  refine gs_getR (r := 132) (pc := 18) (gd gk_115 12 rfl) rfl rfl rfl (by decide) ?_
  refine gs_iload_n (pc := 21) (gd gk_115 13 rfl) rfl ?_
  refine gs_aload_n (pc := 22) (gd gk_115 14 rfl) rfl ?_
  refine gs_iconst (pc := 23) (gd gk_115 15 rfl) (0) rfl ?_
  refine gs_bipush (pc := 24) (gd gk_115 16 rfl) (9) rfl ?_
  refine gs_callV (as := [.int (0), .int (9)]) (pc := 26) (gd gk_115 17 rfl) (by decide) rfl (by decide) rfl rfl (Nat.le_of_ble_eq_true rfl) gq_115_112 (Nat.le_of_ble_eq_true rfl) (m_figure2 (0) (9) l (p + 1, none) t T0 (by decide) L0 h48 s0 A0) (fun r_26 w_26 q_26 => ?_)
  obtain ⟨rfl, I_f1, rfl, f1, e1, d1⟩ := q_26
  refine gs_iastoreK ((4 * k)) (24) gs_sl (pc := 29) (gd gk_115 18 rfl) rfl rfl (by decide) (by first | rfl | (simp only [Int32.ofNat_add, Int32.ofNat_mul]; rfl) | (simp only [Int32.ofNat_add, Int32.ofNat_mul])) (by omega) (fun I_2 hI_2 => ?_)
  have A1 : gm_at I_2 (gm_n1 t l p) := gm_at_o (by rw [hI_2, gw_u_o (by omega)]) f1
  have T1 : I_2 134 = t := by rw [hI_2, gw_u_o (by omega), e1 134 (by omega)]; exact T0
  have L1 : I_2 126 15 = Int32.ofNat l := by rw [hI_2, gw_u_o (by omega), d1 15 (by omega) (by omega)]; exact L0
  refine gs_aload_n (pc := 30) (gd gk_115 19 rfl) rfl ?_
  refine gs_getR (r := 132) (pc := 31) (gd gk_115 20 rfl) rfl rfl rfl (by decide) ?_
  refine gs_iload_n (pc := 34) (gd gk_115 21 rfl) rfl ?_
  refine gs_iconst (pc := 35) (gd gk_115 22 rfl) (1) rfl ?_
  refine gs_iadd (pc := 36) (gd gk_115 23 rfl) ?_
  refine gs_aload_n (pc := 37) (gd gk_115 24 rfl) rfl ?_
  refine gs_iconst (pc := 38) (gd gk_115 25 rfl) (1) rfl ?_
  refine gs_bipush (pc := 39) (gd gk_115 26 rfl) (9) rfl ?_
  refine gs_callV (as := [.int (1), .int (9)]) (pc := 41) (gd gk_115 27 rfl) (by decide) rfl (by decide) rfl rfl (Nat.le_of_ble_eq_true rfl) gq_115_112 (Nat.le_of_ble_eq_true rfl) (m_figure2 (1) (9) l (gm_n1 t l p) t T1 (by decide) L1 h48 s1 A1) (fun r_41 w_41 q_41 => ?_)
  obtain ⟨rfl, I_f2, rfl, f2, e2, d2⟩ := q_41
  refine gs_iastoreK (((4 * k) + 1)) (24) gs_sl (pc := 44) (gd gk_115 28 rfl) rfl rfl (by decide) (by first | rfl | (simp only [Int32.ofNat_add, Int32.ofNat_mul]; rfl) | (simp only [Int32.ofNat_add, Int32.ofNat_mul])) (by omega) (fun I_3 hI_3 => ?_)
  have A2 : gm_at I_3 (gm_n2 t l p) := gm_at_o (by rw [hI_3, gw_u_o (by omega)]) f2
  have T2 : I_3 134 = t := by rw [hI_3, gw_u_o (by omega), e2 134 (by omega)]; exact T1
  have L2 : I_3 126 15 = Int32.ofNat l := by rw [hI_3, gw_u_o (by omega), d2 15 (by omega) (by omega)]; exact L1
  refine gs_aload_n (pc := 45) (gd gk_115 29 rfl) rfl ?_
  refine gs_getR (r := 132) (pc := 46) (gd gk_115 30 rfl) rfl rfl rfl (by decide) ?_
  refine gs_iload_n (pc := 49) (gd gk_115 31 rfl) rfl ?_
  refine gs_iconst (pc := 50) (gd gk_115 32 rfl) (2) rfl ?_
  refine gs_iadd (pc := 51) (gd gk_115 33 rfl) ?_
  refine gs_aload_n (pc := 52) (gd gk_115 34 rfl) rfl ?_
  refine gs_iconst (pc := 53) (gd gk_115 35 rfl) (0) rfl ?_
  refine gs_bipush (pc := 54) (gd gk_115 36 rfl) (9) rfl ?_
  refine gs_callV (as := [.int (0), .int (9)]) (pc := 56) (gd gk_115 37 rfl) (by decide) rfl (by decide) rfl rfl (Nat.le_of_ble_eq_true rfl) gq_115_112 (Nat.le_of_ble_eq_true rfl) (m_figure2 (0) (9) l (gm_n2 t l p) t T2 (by decide) L2 h48 s2 A2) (fun r_56 w_56 q_56 => ?_)
  obtain ⟨rfl, I_f3, rfl, f3, e3, d3⟩ := q_56
  refine gs_iastoreK (((4 * k) + 2)) (24) gs_sl (pc := 59) (gd gk_115 38 rfl) rfl rfl (by decide) (by first | rfl | (simp only [Int32.ofNat_add, Int32.ofNat_mul]; rfl) | (simp only [Int32.ofNat_add, Int32.ofNat_mul])) (by omega) (fun I_4 hI_4 => ?_)
  have A3 : gm_at I_4 (gm_n3 t l p) := gm_at_o (by rw [hI_4, gw_u_o (by omega)]) f3
  have T3 : I_4 134 = t := by rw [hI_4, gw_u_o (by omega), e3 134 (by omega)]; exact T2
  have L3 : I_4 126 15 = Int32.ofNat l := by rw [hI_4, gw_u_o (by omega), d3 15 (by omega) (by omega)]; exact L2
  refine gs_aload_n (pc := 60) (gd gk_115 39 rfl) rfl ?_
  refine gs_getR (r := 132) (pc := 61) (gd gk_115 40 rfl) rfl rfl rfl (by decide) ?_
  refine gs_iload_n (pc := 64) (gd gk_115 41 rfl) rfl ?_
  refine gs_iconst (pc := 65) (gd gk_115 42 rfl) (3) rfl ?_
  refine gs_iadd (pc := 66) (gd gk_115 43 rfl) ?_
  refine gs_aload_n (pc := 67) (gd gk_115 44 rfl) rfl ?_
  refine gs_iconst (pc := 68) (gd gk_115 45 rfl) (0) rfl ?_
  refine gs_iconst (pc := 69) (gd gk_115 46 rfl) (3) rfl ?_
  refine gs_callV (as := [.int (0), .int (3)]) (pc := 70) (gd gk_115 47 rfl) (by decide) rfl (by decide) rfl rfl (Nat.le_of_ble_eq_true rfl) gq_115_112 (Nat.le_of_ble_eq_true rfl) (m_figure2 (0) (3) l (gm_n3 t l p) t T3 (by decide) L3 h48 s3 A3) (fun r_70 w_70 q_70 => ?_)
  obtain ⟨rfl, I_f4, rfl, f4, e4, d4⟩ := q_70
  refine gs_iastoreK (((4 * k) + 3)) (24) gs_sl (pc := 73) (gd gk_115 48 rfl) rfl rfl (by decide) (by first | rfl | (simp only [Int32.ofNat_add, Int32.ofNat_mul]; rfl) | (simp only [Int32.ofNat_add, Int32.ofNat_mul])) (by omega) (fun I_5 hI_5 => ?_)
  have A4 : gm_at I_5 (gm_n4 t l p) := gm_at_o (by rw [hI_5, gw_u_o (by omega)]) f4
  have K5 : I_5 126 12 = Int32.ofNat k := by rw [hI_5, gw_u_o (by omega), d4 12 (by omega) (by omega), hI_4, gw_u_o (by omega), d3 12 (by omega) (by omega), hI_3, gw_u_o (by omega), d2 12 (by omega) (by omega), hI_2, gw_u_o (by omega), d1 12 (by omega) (by omega), hI_1, gw_u_s]; unfold upd; rw [if_neg (by omega)]; exact hk
  refine gs_aload_n (pc := 74) (gd gk_115 49 rfl) rfl ?_
  refine gs_dup (pc := 75) (gd gk_115 50 rfl) rfl ?_
  refine gs_getI (pc := 76) (gd gk_115 51 rfl) rfl rfl ?_
  refine gs_as (Int32.ofNat k) (K5) ?_
  refine gs_iconst (pc := 79) (gd gk_115 52 rfl) (1) rfl ?_
  refine gs_iadd (pc := 80) (gd gk_115 53 rfl) ?_
  refine gs_putI (pc := 81) (gd gk_115 54 rfl) rfl rfl rfl rfl (fun I_6 hI_6 => ?_)
  -- end 1: return, pc 84, locals [(0, .ref (126)), (1, .int (Int32.ofNat (4 * k)))]
  have o : ∀ q, q ≠ 126 → I_6 q = I_5 q := fun q hq => by rw [hI_6, gw_u_o hq]
  have o2 : ∀ q, q ≠ 12 → I_6 126 q = I_5 126 q := fun q hq => by rw [hI_6, gw_u_s]; unfold upd; rw [if_neg hq]
  have r1 : I_f1 132 = I 132 := by rw [e1 132 (by omega), hI_1, gw_u_o (by omega)]
  have r2 : I_f2 132 = I_2 132 := e2 132 (by omega)
  have r3 : I_f3 132 = I_3 132 := e3 132 (by omega)
  have r4 : I_f4 132 = I_4 132 := e4 132 (by omega)
  have w2 : I_2 132 = upd (I_f1 132) (4 * k) (gm_sv t l 0 9 (p + 1, none)) := by rw [hI_2, gw_u_s]
  have w3 : I_3 132 = upd (I_f2 132) (4 * k + 1) (gm_sv t l 1 9 (gm_n1 t l p)) := by rw [hI_3, gw_u_s]
  have w4 : I_4 132 = upd (I_f3 132) (4 * k + 2) (gm_sv t l 0 9 (gm_n2 t l p)) := by rw [hI_4, gw_u_s]
  have w5 : I_5 132 = upd (I_f4 132) (4 * k + 3) (gm_sv t l 0 3 (gm_n3 t l p)) := by rw [hI_5, gw_u_s]
  exact gs_ret (pc := 84) (gd gk_115 55 rfl) rfl (Nat.zero_le _) (Nat.zero_le _) (⟨rfl, I_6, rfl, ⟨by rw [o2 16 (by omega)]; exact A4.1, by rw [o2 17 (by omega)]; exact A4.2⟩, by rw [hI_6, gw_u_s]; unfold upd; rw [if_pos rfl, zsucc], by rw [o 132 (by omega), w5, r4, w4, r3, w3, r2, w2]; simp [upd], by rw [o 132 (by omega), w5, r4, w4, r3, w3]; simp [upd], by rw [o 132 (by omega), w5, r4, w4]; simp [upd], by rw [o 132 (by omega), w5]; simp [upd], fun q hq => by rw [o 132 (by omega), w5, r4, w4, r3, w3, r2, w2, r1]; unfold upd; rw [if_neg (by omega), if_neg (by omega), if_neg (by omega), if_neg (by omega)], fun q q1 q2 => by rw [o q q1, hI_5, gw_u_o q2, e4 q q1, hI_4, gw_u_o q2, e3 q q1, hI_3, gw_u_o q2, e2 q q1, hI_2, gw_u_o q2, e1 q q1, hI_1, gw_u_o q1], fun q q1 q2 q3 => by rw [o2 q q1, hI_5, gw_u_o (by omega), d4 q q2 q3, hI_4, gw_u_o (by omega), d3 q q2 q3, hI_3, gw_u_o (by omega), d2 q q2 q3, hI_2, gw_u_o (by omega), d1 q q2 q3, hI_1, gw_u_s]; unfold upd; rw [if_neg q2]⟩)
end
