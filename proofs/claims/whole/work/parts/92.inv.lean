/-! ===== what holds between class and reference, ahead of every call ===== -/
/-- a morning kept by both: class at a, reference in row r from b on; its hour is in the street -/
def gv_me (I : Nat → Nat → Int32) (a r b W : Nat) : Prop := (∀ c, c < 10 → I (a + 1) c = I r (b + c)) ∧ I a 1 = I r (b + 10) ∧ I a 2 = I r (b + 11) ∧ I a 3 = I r (b + 12) ∧ ∃ h, I a 3 = Int32.ofNat h ∧ h ≤ W
def gv_st (I : Nat → Nat → Int32) (W N h0 L bc : Nat) : Prop := gq_now I W N h0 L bc ∧ gm_now I W N h0 L bc ∧ gv_ag (gz_S I) (gz_M I) W N (I 13) (I 133) ∧ I 12 1 = I 133 10 ∧ I 12 2 = I 133 11
def gv_tx (I : Nat → Nat → Int32) (l : Nat) : Prop := I 4 1 = Int32.ofNat l ∧ I 126 15 = Int32.ofNat l ∧ l ≤ 48 ∧ ∀ j, j < l → I 5 j = I 134 j
def gv_ac (I : Nat → Nat → Int32) (W nx sz : Nat) : Prop := I 16 1 = Int32.ofNat nx ∧ I 126 20 = Int32.ofNat nx ∧ nx < 14 ∧ I 16 2 = Int32.ofNat sz ∧ I 126 19 = Int32.ofNat sz ∧ sz ≤ 14 ∧ ∀ j, j < sz → gv_me I (18 + 2 * ((nx + 13 - j) % 14)) 136 (13 * ((nx + 13 - j) % 14)) W
def gv_sl (I : Nat → Nat → Int32) (W : Nat) (kb : Nat → Bool) : Prop := ∀ s, s < 2 → I 48 s = gz_b (kb s) ∧ I 143 s = gz_b (kb s) ∧ (kb s = true → gv_me I (49 + 2 * s) 144 (13 * s) W)
def gv_si (I : Nat → Nat → Int32) (sz : Nat) (no ho : Nat → Nat) (hd : Nat → Bool) : Prop := gz_si I sz no ho hd ∧ gm_si I sz no ho hd
def gv_tb (I : Nat → Nat → Int32) : Prop := (∀ k, k < 7 → I 1 k = Int32.ofNat (gz_fc k)) ∧ (∀ b, b < 9 → I 2 b = Int32.ofNat (10 ^ b)) ∧ ∀ m, m < 6 → I 69 m = 0
def gv_Inv (I : Nat → Nat → Int32) (J : Nat → Nat → Int64) : Prop := ∃ (W N h0 L bc l nx sz ssz : Nat) (no ho : Nat → Nat) (hd kb : Nat → Bool), gv_st I W N h0 L bc ∧ gv_tx I l ∧ gv_ac I W nx sz ∧ gv_sl I W kb ∧ gv_si I ssz no ho hd ∧ gv_tb I ∧ J 3 11 = J 126 34
theorem gv_st_o {I I2 : Nat → Nat → Int32} {W N h0 L bc : Nat} (h : gv_st I W N h0 L bc) (c1 : ∀ p, 6 ≤ p → p ≤ 13 → I2 p = I p) (c2 : I2 78 0 = I 78 0) (c3 : I2 79 0 = I 79 0) (c4 : I2 69 = I 69) (m1 : ∀ q, q < 5 → I2 126 q = I 126 q) (m2 : I2 127 = I 127) (m3 : I2 129 = I 129) (m4 : ∀ q, q < 13 → I2 133 q = I 133 q) : gv_st I2 W N h0 L bc := by
  obtain ⟨⟨a1, a2, a3, a4, a5, a6, a7, a8⟩, ⟨b1, b2, b3, b4, b5⟩, hA, e1, e2⟩ := h
  have hS : gz_S I2 = gz_S I := gz_S_eq (fun p a b => c1 p a (by omega))
  have hM : gz_M I2 = gz_M I := gz_M_eq m1 m2 m3
  refine ⟨⟨by rw [hS]; exact a1, by rw [c1 12 (by omega) (by omega)]; exact a2, a3, by rw [c1 6 (by omega) (by omega)]; exact a4, a5, by rw [c2]; exact a6, by rw [c3]; exact a7, by rw [c4]; exact a8⟩, ⟨by rw [hM]; exact b1, by rw [m4 12 (by omega)]; exact b2, b3, by rw [m1 0 (by omega)]; exact b4, b5⟩, ?_, by rw [c1 12 (by omega) (by omega), m4 10 (by omega)]; exact e1, by rw [c1 12 (by omega) (by omega), m4 11 (by omega)]; exact e2⟩
  rw [hS, hM]
  exact ⟨hA.1, hA.2.1, fun c hc => by rw [c1 13 (by omega) (by omega), m4 c (by omega)]; exact hA.2.2.1 c hc, hA.2.2.2⟩
theorem gv_tx_o {I I2 : Nat → Nat → Int32} {l : Nat} (h : gv_tx I l) (c1 : I2 4 1 = I 4 1) (c2 : I2 5 = I 5) (m1 : I2 126 15 = I 126 15) (m2 : I2 134 = I 134) : gv_tx I2 l := by
  obtain ⟨a, b, c, d⟩ := h
  exact ⟨by rw [c1]; exact a, by rw [m1]; exact b, c, fun j hj => by rw [c2, m2]; exact d j hj⟩
theorem gv_me_o {I I2 : Nat → Nat → Int32} {a r b W : Nat} (h : gv_me I a r b W) (c1 : I2 a = I a) (c2 : I2 (a + 1) = I (a + 1)) (m : ∀ q, b ≤ q → q < b + 13 → I2 r q = I r q) : gv_me I2 a r b W := by
  obtain ⟨h1, h2, h3, h4, h5⟩ := h
  exact ⟨fun c hc => by rw [c2, m _ (by omega) (by omega)]; exact h1 c hc, by rw [c1, m _ (by omega) (by omega)]; exact h2, by rw [c1, m _ (by omega) (by omega)]; exact h3, by rw [c1, m _ (by omega) (by omega)]; exact h4, by rw [c1]; exact h5⟩
theorem gv_ac_o {I I2 : Nat → Nat → Int32} {W nx sz : Nat} (h : gv_ac I W nx sz) (c1 : ∀ p, 16 ≤ p → p ≤ 45 → I2 p = I p) (m1 : I2 126 19 = I 126 19) (m2 : I2 126 20 = I 126 20) (m3 : I2 136 = I 136) : gv_ac I2 W nx sz := by
  obtain ⟨a1, a2, a3, a4, a5, a6, a7⟩ := h
  refine ⟨by rw [c1 16 (by omega) (by omega)]; exact a1, by rw [m2]; exact a2, a3, by rw [c1 16 (by omega) (by omega)]; exact a4, by rw [m1]; exact a5, a6, fun j hj => ?_⟩
  have hm : (nx + 13 - j) % 14 < 14 := Nat.mod_lt _ (by omega)
  exact gv_me_o (a7 j hj) (c1 _ (by omega) (by omega)) (c1 _ (by omega) (by omega)) (fun q _ _ => by rw [m3])
theorem gv_sl_o {I I2 : Nat → Nat → Int32} {W : Nat} {kb : Nat → Bool} (h : gv_sl I W kb) (c1 : ∀ p, 48 ≤ p → p ≤ 52 → I2 p = I p) (m1 : I2 143 = I 143) (m2 : I2 144 = I 144) : gv_sl I2 W kb := fun s hs => by
  obtain ⟨a, b, c⟩ := h s hs
  exact ⟨by rw [c1 48 (by omega) (by omega)]; exact a, by rw [m1]; exact b, fun k => gv_me_o (c k) (c1 _ (by omega) (by omega)) (c1 _ (by omega) (by omega)) (fun q _ _ => by rw [m2])⟩
theorem gv_si_o {I I2 : Nat → Nat → Int32} {sz : Nat} {no ho : Nat → Nat} {hd : Nat → Bool} (h : gv_si I sz no ho hd) (c1 : I2 53 3 = I 53 3) (c2 : ∀ p, 54 ≤ p → p ≤ 56 → I2 p = I p) (m1 : I2 126 25 = I 126 25) (m2 : ∀ p, 138 ≤ p → p ≤ 140 → I2 p = I p) : gv_si I2 sz no ho hd := by
  refine ⟨gz_si_o h.1 c1 c2, by rw [m1]; exact h.2.1, h.2.2.1, fun k hk => ?_⟩
  rw [m2 138 (by omega) (by omega), m2 139 (by omega) (by omega), m2 140 (by omega) (by omega)]
  exact h.2.2.2 k hk
theorem gv_tb_o {I I2 : Nat → Nat → Int32} (h : gv_tb I) (c1 : I2 1 = I 1) (c2 : I2 2 = I 2) (c3 : I2 69 = I 69) : gv_tb I2 := ⟨fun k hk => by rw [c1]; exact h.1 k hk, fun b hb => by rw [c2]; exact h.2.1 b hb, fun m hm => by rw [c3]; exact h.2.2 m hm⟩
/-- what a question may change: nothing of this -/
def gv_fr (I I2 : Nat → Nat → Int32) : Prop := (∀ p, p ≤ 2 ∨ (4 ≤ p ∧ p ≤ 13) ∨ (16 ≤ p ∧ p ≤ 52) ∨ (54 ≤ p ∧ p ≤ 56) → I2 p = I p) ∧ I2 53 3 = I 53 3 ∧ I2 78 0 = I 78 0 ∧ I2 79 0 = I 79 0 ∧ I2 69 = I 69 ∧ (∀ q, q < 5 ∨ q = 15 ∨ q = 19 ∨ q = 20 ∨ q = 25 → I2 126 q = I 126 q) ∧ (∀ p, p = 127 ∨ p = 129 ∨ p = 134 ∨ p = 136 ∨ (138 ≤ p ∧ p ≤ 140) ∨ p = 143 ∨ p = 144 → I2 p = I p) ∧ ∀ q, q < 13 → I2 133 q = I 133 q
theorem gv_fr_rf (I : Nat → Nat → Int32) : gv_fr I I := ⟨fun _ _ => rfl, rfl, rfl, rfl, rfl, fun _ _ => rfl, fun _ _ => rfl, fun _ _ => rfl⟩
theorem gv_fr_tr {I I2 I3 : Nat → Nat → Int32} (h : gv_fr I I2) (h' : gv_fr I2 I3) : gv_fr I I3 := by
  obtain ⟨a1, a2, a3, a4, a5, a6, a7, a8⟩ := h
  obtain ⟨b1, b2, b3, b4, b5, b6, b7, b8⟩ := h'
  exact ⟨fun p hp => (b1 p hp).trans (a1 p hp), b2.trans a2, b3.trans a3, b4.trans a4, b5.trans a5, fun q hq => (b6 q hq).trans (a6 q hq), fun p hp => (b7 p hp).trans (a7 p hp), fun q hq => (b8 q hq).trans (a8 q hq)⟩
theorem gv_fr_q {I I2 : Nat → Nat → Int32} (h : gq_qf I I2) : gv_fr I I2 := ⟨fun p hp => h.1 p (by omega) (by omega) (by omega), by rw [h.1 53 (by omega) (by omega) (by omega)], h.2.1, h.2.2.1, h.2.2.2, fun q _ => by rw [h.1 126 (by omega) (by omega) (by omega)], fun p hp => h.1 p (by omega) (by omega) (by omega), fun q _ => by rw [h.1 133 (by omega) (by omega) (by omega)]⟩
theorem gv_fr_m {I I2 : Nat → Nat → Int32} (h : gm_qf I I2) : gv_fr I I2 := by
  have o : ∀ p, p < 126 → I2 p = I p := fun p hp => h.1 p (by omega) (by omega) (by omega) (by omega) (by omega) (by omega) (by omega) (by omega) (by omega) (by omega)
  exact ⟨fun p hp => o p (by omega), by rw [o 53 (by omega)], by rw [o 78 (by omega)], by rw [o 79 (by omega)], o 69 (by omega), fun q hq => h.2.2 q (by omega) (by omega) (by omega) (by omega) (by omega) (by omega) (by omega) (by omega), fun p hp => h.1 p (by omega) (by omega) (by omega) (by omega) (by omega) (by omega) (by omega) (by omega) (by omega) (by omega), h.2.1⟩
theorem gv_Inv_fr {I I2 : Nat → Nat → Int32} {J J2 : Nat → Nat → Int64} (h : gv_Inv I J) (hf : gv_fr I I2) (hJ : J2 3 11 = J2 126 34) : gv_Inv I2 J2 := by
  obtain ⟨W, N, h0, L, bc, l, nx, sz, ssz, no, ho, hd, kb, h1, h2, h3, h4, h5, h6, -⟩ := h
  obtain ⟨a1, a2, a3, a4, a5, a6, a7, a8⟩ := hf
  exact ⟨W, N, h0, L, bc, l, nx, sz, ssz, no, ho, hd, kb, gv_st_o h1 (fun p _ _ => a1 p (by omega)) a3 a4 a5 (fun q hq => a6 q (by omega)) (a7 127 (by omega)) (a7 129 (by omega)) a8, gv_tx_o h2 (by rw [a1 4 (by omega)]) (a1 5 (by omega)) (a6 15 (by omega)) (a7 134 (by omega)), gv_ac_o h3 (fun p _ _ => a1 p (by omega)) (a6 19 (by omega)) (a6 20 (by omega)) (a7 136 (by omega)), gv_sl_o h4 (fun p _ _ => a1 p (by omega)) (a7 143 (by omega)) (a7 144 (by omega)), gv_si_o h5 a2 (fun p _ _ => a1 p (by omega)) (a6 25 (by omega)) (fun p _ _ => a7 p (by omega)), gv_tb_o h6 (a1 1 (by omega)) (a1 2 (by omega)) a5, hJ⟩
/-- the class's call, and then the reference's: the same answer, all holds again -/
def gv_Qi (V : gw_V) (n : Nat) (s0 : Nat → Int32) (k : Nat) (as : List Value) : Option Value → gw_W → Prop := fun v w' => ∃ y I1 J1, v = some (.int y) ∧ w' = gS n I1 J1 ∧ I1 0 = s0 ∧ gw_E V k (0, lv_args 0 (.ref 126 :: as), [], gS n I1 J1, 0, 0) (fun v2 w2 => v2 = some (.int y) ∧ ∃ I2 J2, w2 = gS n I2 J2 ∧ I2 0 = s0 ∧ gv_Inv I2 J2)
def gv_Ql (V : gw_V) (n : Nat) (s0 : Nat → Int32) (k : Nat) (as : List Value) : Option Value → gw_W → Prop := fun v w' => ∃ y I1 J1, v = some (.long y) ∧ w' = gS n I1 J1 ∧ I1 0 = s0 ∧ gw_E V k (0, lv_args 0 (.ref 126 :: as), [], gS n I1 J1, 0, 0) (fun v2 w2 => v2 = some (.long y) ∧ ∃ I2 J2, w2 = gS n I2 J2 ∧ I2 0 = s0 ∧ gv_Inv I2 J2)
theorem gq_qf_m {I I1 : Nat → Nat → Int32} {W N h0 L bc : Nat} (q : gq_qf I I1) (h : gm_now I W N h0 L bc) : gm_now I1 W N h0 L bc ∧ gz_M I1 = gz_M I ∧ I1 133 = I 133 ∧ I1 0 = I 0 := by
  have e133 := q.1 133 (by omega) (by omega) (by omega)
  have hM : gz_M I1 = gz_M I := gz_M_eq (fun k _ => by rw [q.1 126 (by omega) (by omega) (by omega)]) (q.1 127 (by omega) (by omega) (by omega)) (q.1 129 (by omega) (by omega) (by omega))
  obtain ⟨b1, b2, b3, b4, b5⟩ := h
  exact ⟨⟨by rw [hM]; exact b1, by rw [e133]; exact b2, b3, by rw [q.1 126 (by omega) (by omega) (by omega)]; exact b4, b5⟩, hM, e133, q.1 0 (by omega) (by omega) (by omega)⟩
theorem gm_qf_0 {I I1 : Nat → Nat → Int32} (h : gm_qf I I1) : I1 0 = I 0 := h.1 0 (by omega) (by omega) (by omega) (by omega) (by omega) (by omega) (by omega) (by omega) (by omega) (by omega)
