/-! ===== the words agree where the streets agree ===== -/
def gq_sim (σ τ : Nat → Nat → Int32) (N : Nat) : Prop := σ 0 1 = τ 0 1 ∧ σ 0 2 = τ 0 2 ∧ ∀ m, m < N → ∀ p, 2 ≤ p → p ≤ 5 → σ p m = τ p m
theorem gq_sim_rf (σ : Nat → Nat → Int32) (N : Nat) : gq_sim σ σ N := ⟨rfl, rfl, fun _ _ _ _ _ => rfl⟩
theorem gq_has_k {σ τ : Nat → Nat → Int32} {N m : Nat} (h : gq_sim σ τ N) (hm : m < N) (s : Nat → Int32) : gq_has σ s m = gq_has τ s m := by
  unfold gq_has
  rw [h.2.2 m hm 2 (by omega) (by omega), h.2.2 m hm 3 (by omega) (by omega)]
theorem gq_due_k {σ τ : Nat → Nat → Int32} {N m : Nat} (h : gq_sim σ τ N) (hm : m < N) (a b : Bool) : gq_due σ m a b = gq_due τ m a b := by
  unfold gq_due
  rw [h.2.2 m hm 4 (by omega) (by omega), h.2.2 m hm 5 (by omega) (by omega)]
theorem gq_who_k {σ τ : Nat → Nat → Int32} {N : Nat} (h : gq_sim σ τ N) (s : Nat → Int32) : ∀ {k : Nat}, k ≤ N → gq_who σ s k = gq_who τ s k
  | 0, _ => rfl
  | k + 1, hk => by
    unfold gq_who
    rw [gq_has_k h (show k < N by omega), gq_who_k h s (k := k) (by omega)]
theorem gq_hc_k {σ τ : Nat → Nat → Int32} {N : Nat} (h : gq_sim σ τ N) (s : Nat → Int32) (bk ea : Bool) {so to : Nat → Bool} (hso : ∀ m, m < N → so m = to m) : ∀ {k : Nat}, k ≤ N → gq_hc σ s bk ea so k = gq_hc τ s bk ea to k
  | 0, _ => by unfold gq_hc; rw [h.2.1]
  | k + 1, hk => by
    unfold gq_hc
    rw [gq_has_k h (show k < N by omega), gq_due_k h (show k < N by omega), hso k (by omega), gq_hc_k h s bk ea hso (k := k) (by omega)]
theorem gq_st_k {σ τ : Nat → Nat → Int32} {N : Nat} (h : gq_sim σ τ N) (wd : Int32) (bk : Bool) (bc : Nat) (ch : Int32) (s : Nat → Int32) (c : Nat) : gq_st σ wd bk bc ch s c = gq_st τ wd bk bc ch s c := by
  unfold gq_st
  rw [h.1]
section
variable {σ τ : Nat → Nat → Int32} {N L bc : Nat} {wd ve : Nat → Int32} {pl ql : Nat → Bool} {ch : Int32} {s t : Nat → Int32} {so to : Nat → Bool}
theorem gq_sq_k (h : gq_sim σ τ N) (hw : ∀ q, q < L → wd q = ve q) (hp : ∀ q, q < L → pl q = ql q) (hs : ∀ c, c < 10 → s c = t c) : ∀ g, g ≤ L → ∀ c, c < 10 → gq_sq σ wd pl bc ch s g c = gq_sq τ ve ql bc ch t g c
  | 0, _, c, hc => hs c hc
  | g + 1, hg, c, _ => by
    show gq_st σ (wd g) (pl g) bc ch (gq_sq σ wd pl bc ch s g) c = gq_st τ (ve g) (ql g) bc ch (gq_sq τ ve ql bc ch t g) c
    rw [hw g (by omega), hp g (by omega), gq_st_c (gq_sq_k h hw hp hs g (by omega)), gq_st_k h]
theorem gq_cm_k (h : gq_sim σ τ N) (hw : ∀ q, q < L → wd q = ve q) (hp : ∀ q, q < L → pl q = ql q) (hs : ∀ c, c < 10 → s c = t c) (hso : ∀ m, m < N → so m = to m) (hn : ∀ m, m < N → 0 ≤ σ 2 m ∧ σ 2 m ≤ 9) : ∀ g, g ≤ L → gq_cm σ wd pl bc ch s so N g = gq_cm τ ve ql bc ch t to N g
  | 0, _ => rfl
  | g + 1, hg => by
    unfold gq_cm
    rw [gq_cm_k h hw hp hs hso hn g (by omega), gq_hc_c (gq_sq_k h hw hp hs (g + 1) hg) hn, gq_hc_k h _ _ _ hso (Nat.le_refl N), hw g (by omega), hp g (by omega)]
theorem gq_hd_k (h : gq_sim σ τ N) (hw : ∀ q, q < L → wd q = ve q) (hp : ∀ q, q < L → pl q = ql q) (hs : ∀ c, c < 10 → s c = t c) (hn : ∀ m, m < N → 0 ≤ σ 2 m ∧ σ 2 m ≤ 9) : ∀ g, g ≤ L → gq_hd σ wd pl bc ch s N g = gq_hd τ ve ql bc ch t N g
  | 0, _ => rfl
  | g + 1, hg => by
    unfold gq_hd
    rw [gq_hd_k h hw hp hs hn g (by omega), gq_who_c (gq_sq_k h hw hp hs (g + 1) hg) hn, gq_who_k h _ (Nat.le_refl N)]
theorem gq_pd_k {m : Nat} (hm : m < N) (h : gq_sim σ τ N) (hw : ∀ q, q < L → wd q = ve q) (hp : ∀ q, q < L → pl q = ql q) (hs : ∀ c, c < 10 → s c = t c) (hn : ∀ m, m < N → 0 ≤ σ 2 m ∧ σ 2 m ≤ 9) : ∀ g, g ≤ L → gq_pd σ wd pl bc ch s m g = gq_pd τ ve ql bc ch t m g
  | 0, _ => rfl
  | g + 1, hg => by
    unfold gq_pd
    rw [gq_pd_k hm h hw hp hs hn g (by omega), gq_has_c (gq_sq_k h hw hp hs (g + 1) hg) (hn m hm), gq_has_k h hm, gq_due_k h hm, hw g (by omega)]
end
theorem gz_in_0 (j : Nat) (hj : j < 32) : gz_in 0 (Int32.ofNat j) = false := by
  have := gz_bitn 0 hj
  rw [show (0 : Int32) = Int32.ofNat 0 from rfl, this, Nat.zero_testBit]
theorem gq_wd_0 (σ : Nat → Nat → Int32) (h : Nat) (hh : h < 32) : gq_wd σ 0 h = σ 1 h := by
  unfold gq_wd
  rw [gz_in_0 h hh]; rfl
/-! ===== the reference: left, by, had, bestBy, best ===== -/
/-- the hours that are left, as the reference says them -/
def gz_lf (W h0 : Nat) : Int32 := (((1 : Int32) <<< (Int32.ofNat W &&& 31)) - 1) &&& ((((1 : Int32) <<< (Int32.ofNat h0 &&& 31)) - 1) ^^^ -1)
theorem gz_lf_su0 : ∀ h0, h0 < 9 → ∀ L, L < 9 → h0 + L < 9 → ∀ q, q < 2 ^ (h0 + L) → (decide (Int32.ofNat q &&& (gz_lf (h0 + L) h0 ^^^ -1) = 0) == decide (q % 2 ^ h0 = 0)) = true := by decide +kernel
theorem gz_lf_su {h0 L q : Nat} (h : h0 + L < 9) (hq : q < 2 ^ (h0 + L)) : Int32.ofNat q &&& (gz_lf (h0 + L) h0 ^^^ -1) = 0 ↔ gz_su q h0 L := by
  have := gz_lf_su0 h0 (by omega) L (by omega) h q hq
  have e := eq_of_beq this
  have e2 := decide_eq_decide.mp e
  exact ⟨fun a => ⟨e2.mp a, hq⟩, fun a => e2.mpr a.1⟩
section
variable {V : gw_V} {n W N h0 L bc : Nat} {I : Nat → Nat → Int32} {J : Nat → Nat → Int64}
theorem m_left (hn : gm_now I W N h0 L bc) : gw_E V 135 (0, [(0, .ref 126)], [], gS n I J, 0, 0) (fun v w' => v = some (.int (gz_lf W h0)) ∧ w' = gS n I J) := by
  have hW : I 126 3 = Int32.ofNat W := hn.1.1
  refine gs_iconst (pc := 0) (gd gk_135 0 rfl) (1) rfl ?_
  refine gs_aload_n (pc := 1) (gd gk_135 1 rfl) rfl ?_
  refine gs_getI (pc := 2) (gd gk_135 2 rfl) rfl rfl ?_
  refine gs_as (Int32.ofNat W) (hW) ?_
  refine gs_ishl (pc := 5) (gd gk_135 3 rfl) ?_
  refine gs_iconst (pc := 6) (gd gk_135 4 rfl) (1) rfl ?_
  refine gs_isub (pc := 7) (gd gk_135 5 rfl) ?_
  refine gs_iconst (pc := 8) (gd gk_135 6 rfl) (1) rfl ?_
  refine gs_aload_n (pc := 9) (gd gk_135 7 rfl) rfl ?_
  refine gs_getR (r := 133) (pc := 10) (gd gk_135 8 rfl) rfl rfl rfl (by decide) ?_
  refine gs_bipush (pc := 13) (gd gk_135 9 rfl) (12) rfl ?_
  refine gs_ialoadK (12) (52) (pc := 15) (gd gk_135 10 rfl) (Or.inl rfl) rfl (by decide) (by first | rfl | (simp only [Int32.ofNat_add, Int32.ofNat_mul]; rfl) | (simp only [Int32.ofNat_add, Int32.ofNat_mul])) (by omega) ?_
  refine gs_as (Int32.ofNat h0) (hn.2.1) ?_
  refine gs_ishl (pc := 16) (gd gk_135 11 rfl) ?_
  refine gs_iconst (pc := 17) (gd gk_135 12 rfl) (1) rfl ?_
  refine gs_isub (pc := 18) (gd gk_135 13 rfl) ?_
  refine gs_iconst (pc := 19) (gd gk_135 14 rfl) (-1) rfl ?_
  refine gs_ixor (pc := 20) (gd gk_135 15 rfl) ?_
  refine gs_iand (pc := 21) (gd gk_135 16 rfl) ?_
  -- end 1: ireturn (((1 <<< (Int32.ofNat W &&& 31)) - 1) &&& (((1 <<< (Int32.ofNat h0 &&& 31)) - 1) ^^^ (-1))), pc 22, locals [(0, .ref (126))]
  exact gs_iret (pc := 22) (gd gk_135 17 rfl) rfl (rfl) (Nat.zero_le _) (Nat.zero_le _) (⟨rfl, rfl⟩)
theorem m_run0 {I0 : Nat → Nat → Int32} (pl so : Int32) (hq : gm_qf I0 I) (hn : gm_now I0 W N h0 L bc) (hb : ∀ h, h < 8 → I 128 h = I0 127 h) : gw_E V 134 (0, [(0, .ref 126), (1, .int pl), (2, .int so)], [], gS n I J, 0, 0) (fun v w' => ∃ I2, w' = gS n I2 J ∧ v = some (.int (gq_cm (gz_M I0) (gq_w0 (gz_M I0) h0) (gq_p0 pl h0) bc (I0 133 10) (I0 133) (fun m => gz_in so (Int32.ofNat m)) N L)) ∧ I2 126 22 = gq_hd (gz_M I0) (gq_w0 (gz_M I0) h0) (gq_p0 pl h0) bc (I0 133 10) (I0 133) N L ∧ gm_rf I I2) := by
  have hn1 := gm_qf_now hq hn
  have hW8 := hn.1.2.1
  have hW := hn.2.2.1
  have hwd : ∀ q, q < L → I 128 (h0 + q) = gq_w0 (gz_M I0) h0 q := fun q hq2 => by
    show _ = gq_wd _ _ _
    rw [hb _ (by omega), gq_wd_0 _ _ (by omega)]; rfl
  refine gs_mono ?_ (m_run h0 L bc pl so hn1 (fun h hh => ?_))
  · rintro v w ⟨I2, rfl, rfl, e1, e2⟩
    have hs : ∀ c, c < 10 → I 133 c = I0 133 c := fun c hc => hq.2.1 c (by omega)
    have hM := gm_qf_M hq
    have hok := gq_ok_n hn1.1
    rw [hM, hq.2.1 10 (by omega)] at e1
    refine ⟨I2, rfl, ?_, ?_, e2⟩
    · rw [hM] at hok ⊢
      rw [hq.2.1 10 (by omega), gq_cm_k (gq_sim_rf _ N) hwd (fun _ _ => rfl) hs (fun _ _ => rfl) hok L (Nat.le_refl L)]
    · rw [hM] at hok
      rw [e1, gq_hd_k (gq_sim_rf _ N) hwd (fun _ _ => rfl) hs hok L (Nat.le_refl L)]
  · rw [hb h (by omega)]
    obtain ⟨-, -, -, -, -, -, -, hw, -⟩ := hn.1
    exact hw h hh
theorem gm_qf_128 {I I2 : Nat → Nat → Int32} (h : ∀ p, p ≠ 128 → I2 p = I p) : gm_qf I I2 := ⟨fun p _ a _ _ _ _ _ _ _ _ => h p a, fun q _ => by rw [h 133 (by omega)], fun q _ _ _ _ _ _ _ _ => by rw [h 126 (by omega)]⟩
theorem gm_all {N : Nat} (h : N ≤ 6) : ∀ m, m < N → gz_in 63 (Int32.ofNat m) = true := by
  have : ∀ m, m < 6 → gz_in 63 (Int32.ofNat m) = true := by decide
  exact fun m hm => this m (by omega)
theorem m_by (pl : Int32) (hn : gm_now I W N h0 L bc) : gw_E V 136 (0, [(0, .ref 126), (1, .int pl)], [], gS n I J, 0, 0) (fun v w' => v = some (.int (if gz_rg pl 0 255 then gq_cm (gz_M I) (gq_w0 (gz_M I) h0) (gq_p0 pl h0) bc (I 133 10) (I 133) (fun _ => true) N L else -1000002)) ∧ ∃ I2, w' = gS n I2 J ∧ gm_qf I I2) := by
  refine gs_iload_n (pc := 0) (gd gk_136 0 rfl) rfl ?_
  refine gs_i2l (pc := 1) (gd gk_136 1 rfl) ?_
  refine gs_lconst (pc := 2) (gd gk_136 2 rfl) (0) rfl ?_
  refine gs_ldc2_w (pc := 3) (gd gk_136 3 rfl) (255) rfl ?_
  refine gs_callS (as := [.long ((pl : Int32).toInt64), .long (0), .long (255)]) (pc := 6) (gd gk_136 4 rfl) (by decide) rfl rfl (Nat.le_of_ble_eq_true rfl) gq_136_107 (Nat.le_of_ble_eq_true rfl) (c_mrg (pl) (0) (255)) (fun r_6 w_6 q_6 => ?_)
  obtain ⟨rfl, rfl⟩ := q_6
  refine gs_if_ne (pc := 9) (gd gk_136 5 rfl) (fun c9 => ?_) (fun c9 => ?_)
  · refine gs_aload_n (pc := 15) (gd gk_136 8 rfl) rfl ?_
    refine gs_callV (as := []) (pc := 16) (gd gk_136 9 rfl) (by decide) rfl (by decide) rfl rfl (Nat.le_of_ble_eq_true rfl) gq_136_128 (Nat.le_of_ble_eq_true rfl) (m_winds) (fun r_16 w_16 q_16 => ?_)
    obtain ⟨rfl, I_w, rfl, w1, w2⟩ := q_16
    refine gs_aload_n (pc := 19) (gd gk_136 10 rfl) rfl ?_
    refine gs_iload_n (pc := 20) (gd gk_136 11 rfl) rfl ?_
    refine gs_bipush (pc := 21) (gd gk_136 12 rfl) (63) rfl ?_
    refine gs_callV (as := [.int (pl), .int (63)]) (pc := 23) (gd gk_136 13 rfl) (by decide) rfl (by decide) rfl rfl (Nat.le_of_ble_eq_true rfl) gq_136_134 (Nat.le_of_ble_eq_true rfl) (m_run0 (I0 := I) pl 63 (gm_qf_128 w2) hn w1) (fun r_23 w_23 q_23 => ?_)
    obtain ⟨I_r, rfl, rfl, r1, r2⟩ := q_23
    -- end 1: ireturn (gq_cm (gz_M I) (gq_w0 (gz_M I) h0) (gq_p0 pl h0) bc (I 133 10) (I 133) (fun m => gz_in 63 (Int32.ofNat m)) N L), pc 26, locals [(0, .ref (126)), (1, .int (pl))]
    exact gs_iret (pc := 26) (gd gk_136 14 rfl) rfl (rfl) (Nat.zero_le _) (Nat.zero_le _) (⟨by rw [if_pos (gz_b_ne.mp c9), gq_cm_k (gq_sim_rf _ N) (fun _ _ => rfl) (fun _ _ => rfl) (fun _ _ => rfl) (gm_all hn.1.2.2.2.1) (gq_ok_n hn.1) L (Nat.le_refl L)], I_r, rfl, gm_qf_tr (gm_qf_128 w2) (gm_rf_q r2)⟩)
  · refine gs_ldc (pc := 12) (gd gk_136 6 rfl) (-1000002) rfl ?_
    -- end 2: ireturn (-1000002), pc 14, locals [(0, .ref (126)), (1, .int (pl))]
    exact gs_iret (pc := 14) (gd gk_136 7 rfl) rfl (rfl) (Nat.zero_le _) (Nat.zero_le _) (⟨by rw [if_neg (by rw [gz_b_eq.mp c9]; decide)], I, rfl, gm_qf_rf I⟩)
theorem m_had (pl : Int32) (hn : gm_now I W N h0 L bc) : gw_E V 145 (0, [(0, .ref 126), (1, .int pl)], [], gS n I J, 0, 0) (fun v w' => v = some (.int (if gz_rg pl 0 255 then gq_hd (gz_M I) (gq_w0 (gz_M I) h0) (gq_p0 pl h0) bc (I 133 10) (I 133) N L else -2)) ∧ ∃ I2, w' = gS n I2 J ∧ gm_qf I I2) := by
  refine gs_iload_n (pc := 0) (gd gk_145 0 rfl) rfl ?_
  refine gs_i2l (pc := 1) (gd gk_145 1 rfl) ?_
  refine gs_lconst (pc := 2) (gd gk_145 2 rfl) (0) rfl ?_
  refine gs_ldc2_w (pc := 3) (gd gk_145 3 rfl) (255) rfl ?_
  refine gs_callS (as := [.long ((pl : Int32).toInt64), .long (0), .long (255)]) (pc := 6) (gd gk_145 4 rfl) (by decide) rfl rfl (Nat.le_of_ble_eq_true rfl) gq_145_107 (Nat.le_of_ble_eq_true rfl) (c_mrg (pl) (0) (255)) (fun r_6 w_6 q_6 => ?_)
  obtain ⟨rfl, rfl⟩ := q_6
  refine gs_if_ne (pc := 9) (gd gk_145 5 rfl) (fun c9 => ?_) (fun c9 => ?_)
  · refine gs_aload_n (pc := 15) (gd gk_145 8 rfl) rfl ?_
    refine gs_callV (as := []) (pc := 16) (gd gk_145 9 rfl) (by decide) rfl (by decide) rfl rfl (Nat.le_of_ble_eq_true rfl) gq_145_128 (Nat.le_of_ble_eq_true rfl) (m_winds) (fun r_16 w_16 q_16 => ?_)
    obtain ⟨rfl, I_w, rfl, w1, w2⟩ := q_16
    refine gs_aload_n (pc := 19) (gd gk_145 10 rfl) rfl ?_
    refine gs_iload_n (pc := 20) (gd gk_145 11 rfl) rfl ?_
    refine gs_bipush (pc := 21) (gd gk_145 12 rfl) (63) rfl ?_
    refine gs_callV (as := [.int (pl), .int (63)]) (pc := 23) (gd gk_145 13 rfl) (by decide) rfl (by decide) rfl rfl (Nat.le_of_ble_eq_true rfl) gq_145_134 (Nat.le_of_ble_eq_true rfl) (m_run0 (I0 := I) pl 63 (gm_qf_128 w2) hn w1) (fun r_23 w_23 q_23 => ?_)
    obtain ⟨I_r, rfl, rfl, r1, r2⟩ := q_23
    refine gs_pop (pc := 26) (gd gk_145 14 rfl) rfl ?_
    refine gs_aload_n (pc := 27) (gd gk_145 15 rfl) rfl ?_
    refine gs_getI (pc := 28) (gd gk_145 16 rfl) rfl rfl ?_
    -- end 1: ireturn (I_r 126 22), pc 31, locals [(0, .ref (126)), (1, .int (pl))]
    exact gs_iret (pc := 31) (gd gk_145 17 rfl) rfl (rfl) (Nat.zero_le _) (Nat.zero_le _) (⟨by rw [r1, if_pos (gz_b_ne.mp c9)], I_r, rfl, gm_qf_tr (gm_qf_128 w2) (gm_rf_q r2)⟩)
  · refine gs_bipush (pc := 12) (gd gk_145 6 rfl) (-2) rfl ?_
    -- end 2: ireturn (-2), pc 14, locals [(0, .ref (126)), (1, .int (pl))]
    exact gs_iret (pc := 14) (gd gk_145 7 rfl) rfl (rfl) (Nat.zero_le _) (Nat.zero_le _) (⟨by rw [if_neg (by rw [gz_b_eq.mp c9]; decide)], I, rfl, gm_qf_rf I⟩)
end
