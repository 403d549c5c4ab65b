/-! ===== hours by hours, in numbers ===== -/
/-- the smells behind g hours -/
def gq_sq (σ : Nat → Nat → Int32) (wd : Nat → Int32) (pl : Nat → Bool) (bc : Nat) (ch : Int32) (s0 : Nat → Int32) : Nat → Nat → Int32
  | 0 => s0
  | g + 1 => gq_st σ (wd g) (pl g) bc ch (gq_sq σ wd pl bc ch s0 g)
/-- what a nose has paid by then -/
def gq_pd (σ : Nat → Nat → Int32) (wd : Nat → Int32) (pl : Nat → Bool) (bc : Nat) (ch : Int32) (s0 : Nat → Int32) (m : Nat) : Nat → Int32
  | 0 => 0
  | g + 1 => gq_pd σ wd pl bc ch s0 m g + gq_due σ m (gq_has σ (gq_sq σ wd pl bc ch s0 (g + 1)) m) (decide (wd g = 1))
/-- what has come by then, of some noses -/
def gq_cm (σ : Nat → Nat → Int32) (wd : Nat → Int32) (pl : Nat → Bool) (bc : Nat) (ch : Int32) (s0 : Nat → Int32) (so : Nat → Bool) (N : Nat) : Nat → Int32
  | 0 => 0
  | g + 1 => gq_cm σ wd pl bc ch s0 so N g + gq_hc σ (gq_sq σ wd pl bc ch s0 (g + 1)) (pl g) (decide (wd g = 1)) so N
/-- who has had it by then -/
def gq_hd (σ : Nat → Nat → Int32) (wd : Nat → Int32) (pl : Nat → Bool) (bc : Nat) (ch : Int32) (s0 : Nat → Int32) (N : Nat) : Nat → Int32
  | 0 => 0
  | g + 1 => gq_hd σ wd pl bc ch s0 N g ||| gq_who σ (gq_sq σ wd pl bc ch s0 (g + 1)) N
theorem gq_dr_c {s1 s2 : Nat → Int32} (h : ∀ c, c < 10 → s1 c = s2 c) (wd : Int32) (c : Nat) : gq_dr s1 wd c = gq_dr s2 wd c := by
  unfold gq_dr
  by_cases q : 0 ≤ Int32.ofNat c - wd ∧ Int32.ofNat c - wd < 10
  · rw [if_pos q, if_pos q, h _ ((zlt_l q.1 (n := 10) (by decide)).mp q.2)]
  · rw [if_neg q, if_neg q]
theorem gq_st_c {s1 s2 : Nat → Int32} (h : ∀ c, c < 10 → s1 c = s2 c) (σ : Nat → Nat → Int32) (wd : Int32) (bk : Bool) (bc : Nat) (ch : Int32) (c : Nat) : gq_st σ wd bk bc ch s1 c = gq_st σ wd bk bc ch s2 c := by
  unfold gq_st
  rw [gq_dr_c h]
theorem gq_has_c {s1 s2 : Nat → Int32} (h : ∀ c, c < 10 → s1 c = s2 c) {σ : Nat → Nat → Int32} {m : Nat} (h2 : 0 ≤ σ 2 m ∧ σ 2 m ≤ 9) : gq_has σ s1 m = gq_has σ s2 m := by
  unfold gq_has
  rw [h _ (by have := (zle_l h2.1 (n := 9) (by decide)).mp h2.2; omega)]
theorem gq_who_c {s1 s2 : Nat → Int32} (h : ∀ c, c < 10 → s1 c = s2 c) {σ : Nat → Nat → Int32} : ∀ {N : Nat}, (∀ m, m < N → 0 ≤ σ 2 m ∧ σ 2 m ≤ 9) → gq_who σ s1 N = gq_who σ s2 N
  | 0, _ => rfl
  | N + 1, hn => by
    unfold gq_who
    rw [gq_has_c h (hn N (by omega)), gq_who_c h (N := N) (fun m hm => hn m (by omega))]
theorem gq_hc_c {s1 s2 : Nat → Int32} (h : ∀ c, c < 10 → s1 c = s2 c) {σ : Nat → Nat → Int32} {bk ea : Bool} {so : Nat → Bool} : ∀ {N : Nat}, (∀ m, m < N → 0 ≤ σ 2 m ∧ σ 2 m ≤ 9) → gq_hc σ s1 bk ea so N = gq_hc σ s2 bk ea so N
  | 0, _ => rfl
  | N + 1, hn => by
    unfold gq_hc
    rw [gq_has_c h (hn N (by omega)), gq_hc_c h (N := N) (fun m hm => hn m (by omega))]
/-- what the rows hold, in numbers -/
def gq_res (I : Nat → Nat → Int32) (N L : Nat) (σ : Nat → Nat → Int32) (wd : Nat → Int32) (pl : Nat → Bool) (bc : Nat) (ch : Int32) (s0 : Nat → Int32) : Prop := ∀ g, g ≤ L → (∀ c, c < 10 → I (59 + g) c = gq_sq σ wd pl bc ch s0 g c) ∧ (∀ m, m < N → I (69 + g) m = gq_pd σ wd pl bc ch s0 m g) ∧ I 78 g = gq_cm σ wd pl bc ch s0 (fun _ => true) N g ∧ I 79 g = gq_hd σ wd pl bc ch s0 N g ∧ (0 < g → I 80 g = gq_who σ (gq_sq σ wd pl bc ch s0 g) N)
theorem gq_res_of {I : Nat → Nat → Int32} {W N h0 L bc : Nat} {pl tr ch : Int32} {s0 : Nat → Int32} (hok : gq_ok (gz_S I) W N) (h78 : I 78 0 = 0) (h79 : I 79 0 = 0) (h69 : ∀ m, m < N → I 69 m = 0) (h59 : I 59 = s0) (hr : gq_rows I N h0 pl tr bc ch L) : gq_res I N L (gz_S I) (fun q => gq_wd (gz_S I) tr (h0 + q)) (fun q => gz_in pl (Int32.ofNat (h0 + q))) bc ch s0 := by
  have hc : ∀ m, m < N → 0 ≤ gz_S I 2 m ∧ gz_S I 2 m ≤ 9 := fun m hm => (hok.2.2.2.2.2.2.2.2 m hm).1
  intro g
  induction g with
  | zero =>
    intro _
    exact ⟨fun c _ => by rw [show 59 + 0 = 59 from rfl, h59]; rfl, fun m hm => by rw [show 69 + 0 = 69 from rfl, h69 m hm]; rfl, h78, h79, fun h => absurd h (Nat.lt_irrefl 0)⟩
  | succ g ih =>
    intro hg
    obtain ⟨a1, a2, a3, a4, -⟩ := ih (by omega)
    obtain ⟨b1, b2, b3, b4, b5⟩ := hr g (by omega)
    have e : ∀ c, c < 10 → I (59 + (g + 1)) c = gq_sq (gz_S I) (fun q => gq_wd (gz_S I) tr (h0 + q)) (fun q => gz_in pl (Int32.ofNat (h0 + q))) bc ch s0 (g + 1) c := fun c hc9 => by
      rw [b1 c hc9, gq_st_c a1]; rfl
    refine ⟨e, fun m hm => ?_, ?_, ?_, fun _ => ?_⟩
    · rw [b2 m hm, a2 m hm, gq_has_c e (hc m hm)]; rfl
    · rw [b3, a3, gq_hc_c e hc]; rfl
    · rw [b4, a4, gq_who_c e hc]; rfl
    · rw [b5, gq_who_c e hc]
/-- a walk that has been started: its street, first hour, hours left, baker -/
def gq_on (I : Nat → Nat → Int32) (W N h0 L bc : Nat) : Prop := gq_ok (gz_S I) W N ∧ I 57 11 = Int32.ofNat h0 ∧ I 57 12 = Int32.ofNat L ∧ h0 + L = W ∧ I 57 7 = Int32.ofNat bc ∧ bc < 10 ∧ I 78 0 = 0 ∧ I 79 0 = 0 ∧ (∀ m, m < N → I 69 m = 0) ∧ ∃ fo, fo ≤ L ∧ I 57 10 = Int32.ofNat fo ∧ gq_rows I N h0 (I 57 8) (I 57 9) bc (I 57 6) fo
theorem c_take2 {V : gw_V} {n W N h0 L bc : Nat} {I : Nat → Nat → Int32} {J : Nat → Nat → Int64} (pl tr : Int32) (hon : gq_on I W N h0 L bc) : gw_E V 53 (0, [(0, .ref 57), (1, .int pl), (2, .int tr)], [], gS n I J, 0, 0)
    (fun v w' => v = none ∧ ∃ I2, w' = gS n I2 J ∧ gq_wf I I2 ∧ gq_on I2 W N h0 L bc ∧ gq_res I2 N L (gz_S I) (fun q => gq_wd (gz_S I) tr (h0 + q)) (fun q => gz_in pl (Int32.ofNat (h0 + q))) bc (I 57 6) (I 59)) := by
  obtain ⟨hok, a1, a2, a3, a4, a5, a6, a7, a8, fo, a9, a10, a11⟩ := hon
  refine gs_mono ?_ (c_take pl tr h0 bc L fo hok a1 a2 a3 a4 a5 a10 a9 a11)
  rintro v w ⟨rfl, I2, rfl, b1, b2, b3, b4, b5⟩
  have hS := gq_wf_S b1
  have hok2 : gq_ok (gz_S I2) W N := by rw [hS]; exact hok
  have c6 : I2 57 6 = I 57 6 := b1.2.2 6 (by omega) (by omega) (by omega)
  have d1 : I2 78 0 = 0 := by rw [b1.2.1 78 (Or.inl rfl)]; exact a6
  have d2 : I2 79 0 = 0 := by rw [b1.2.1 79 (Or.inr (Or.inl rfl))]; exact a7
  have d3 : ∀ m, m < N → I2 69 m = 0 := fun m hm => by rw [b1.1 69 (by omega) (by omega) (by omega)]; exact a8 m hm
  refine ⟨rfl, I2, rfl, b1, ⟨hok2, by rw [b1.2.2 11 (by omega) (by omega) (by omega)]; exact a1, by rw [b1.2.2 12 (by omega) (by omega) (by omega)]; exact a2, a3, by rw [b1.2.2 7 (by omega) (by omega) (by omega)]; exact a4, a5, d1, d2, d3, L, Nat.le_refl L, b4, by rw [b2, b3, c6]; exact b5⟩, ?_⟩
  have := gq_res_of (s0 := I 59) hok2 d1 d2 d3 (b1.1 59 (by omega) (by omega) (by omega)) b5
  rw [hS] at this
  exact this
/-- what start may change -/
def gq_sf (I I2 : Nat → Nat → Int32) : Prop := (∀ p, p ≠ 57 → p ≠ 59 → I2 p = I p)
theorem c_start_now {V : gw_V} {n W N : Nat} {I : Nat → Nat → Int32} {J : Nat → Nat → Int64} (bc h0 L : Nat) (hok : gq_ok (gz_S I) W N) (hh : I 12 3 = Int32.ofNat h0) (hW : h0 + L = W) (hbc : bc < 10) (h78 : I 78 0 = 0) (h79 : I 79 0 = 0) (h69 : ∀ m, m < N → I 69 m = 0) : gw_E V 50 (0, [(0, .ref 57), (1, .ref 12), (2, .int (Int32.ofNat bc))], [], gS n I J, 0, 0)
    (fun v w' => v = none ∧ ∃ I2, w' = gS n I2 J ∧ gq_sf I I2 ∧ gq_on I2 W N h0 L bc ∧ I2 57 6 = I 12 1 ∧ ∀ c, c < 10 → I2 59 c = I 13 c) := by
  obtain ⟨hW0, -⟩ := id hok
  have hW0 : I 6 3 = Int32.ofNat W := hW0
  refine gs_aload_n (pc := 0) (gd gk_50 0 rfl) rfl ?_
  refine gs_getR (r := 13) (pc := 1) (gd gk_50 1 rfl) rfl rfl rfl (by decide) ?_
  refine gs_iconst (pc := 4) (gd gk_50 2 rfl) (0) rfl ?_
  refine gs_aload_n (pc := 5) (gd gk_50 3 rfl) rfl ?_
  refine gs_getR (r := 58) (pc := 6) (gd gk_50 4 rfl) rfl rfl rfl (by decide) ?_
  refine gs_iconst (pc := 9) (gd gk_50 5 rfl) (0) rfl ?_
  refine gs_aaloadK (r := 59) (0) (9) (pc := 10) (gd gk_50 6 rfl) (Or.inr rfl) rfl (by decide) (by first | rfl | (simp only [Int32.ofNat_add, Int32.ofNat_mul]; rfl) | (simp only [Int32.ofNat_add, Int32.ofNat_mul])) (by omega) rfl (by omega) ?_
  refine gs_iconst (pc := 11) (gd gk_50 7 rfl) (0) rfl ?_
  refine gs_bipush (pc := 12) (gd gk_50 8 rfl) (10) rfl ?_
  refine gs_copy gs_sl (pc := 14) (gd gk_50 9 rfl) (by decide) (by decide) (Nat.le_of_ble_eq_true rfl) rfl rfl (by decide) (by decide) (by decide) (Nat.le_of_ble_eq_true rfl) (Nat.le_of_ble_eq_true rfl) (fun I_1 hI_1 => ?_)
  refine gs_aload_n (pc := 17) (gd gk_50 10 rfl) rfl ?_
  refine gs_aload_n (pc := 18) (gd gk_50 11 rfl) rfl ?_
  refine gs_getI (pc := 19) (gd gk_50 12 rfl) rfl rfl ?_
  refine gs_putI (pc := 22) (gd gk_50 13 rfl) rfl rfl rfl rfl (fun I_2 hI_2 => ?_)
  refine gs_aload_n (pc := 25) (gd gk_50 14 rfl) rfl ?_
  refine gs_iload_n (pc := 26) (gd gk_50 15 rfl) rfl ?_
  refine gs_putI (pc := 27) (gd gk_50 16 rfl) rfl rfl rfl rfl (fun I_3 hI_3 => ?_)
  refine gs_aload_n (pc := 30) (gd gk_50 17 rfl) rfl ?_
  refine gs_aload_n (pc := 31) (gd gk_50 18 rfl) rfl ?_
  refine gs_getI (pc := 32) (gd gk_50 19 rfl) rfl rfl ?_
  refine gs_putI (pc := 35) (gd gk_50 20 rfl) rfl rfl rfl rfl (fun I_4 hI_4 => ?_)
  refine gs_aload_n (pc := 38) (gd gk_50 21 rfl) rfl ?_
  refine gs_aload_n (pc := 39) (gd gk_50 22 rfl) rfl ?_
  refine gs_getR (r := 6) (pc := 40) (gd gk_50 23 rfl) rfl rfl rfl (by decide) ?_
  refine gs_getI (pc := 43) (gd gk_50 24 rfl) rfl rfl ?_
  refine gs_aload_n (pc := 46) (gd gk_50 25 rfl) rfl ?_
  refine gs_getI (pc := 47) (gd gk_50 26 rfl) rfl rfl ?_
  refine gs_isub (pc := 50) (gd gk_50 27 rfl) ?_
  refine gs_putI (pc := 51) (gd gk_50 28 rfl) rfl rfl rfl rfl (fun I_5 hI_5 => ?_)
  refine gs_aload_n (pc := 54) (gd gk_50 29 rfl) rfl ?_
  refine gs_iconst (pc := 55) (gd gk_50 30 rfl) (0) rfl ?_
  refine gs_putI (pc := 56) (gd gk_50 31 rfl) rfl rfl rfl rfl (fun I_6 hI_6 => ?_)
  -- end 1: return, pc 59, locals [(0, .ref (57)), (1, .ref (12)), (2, .int (Int32.ofNat bc))]
  have e1 : ∀ p, p ≠ 57 → p ≠ 59 → I_6 p = I p := fun p a1 a2 => by rw [hI_6, gw_u_o a1, hI_5, gw_u_o a1, hI_4, gw_u_o a1, hI_3, gw_u_o a1, hI_2, gw_u_o a1, hI_1]; funext z; simp [gw_cp, a2]
  have e2 : ∀ c, c < 10 → I_6 59 c = I 13 c := fun c hc => by
    rw [hI_6, gw_u_o (by omega), hI_5, gw_u_o (by omega), hI_4, gw_u_o (by omega), hI_3, gw_u_o (by omega), hI_2, gw_u_o (by omega), hI_1]
    have z0 : (0 : Int32).toNatClampNeg = 0 := rfl
    have z10 : (10 : Int32).toNatClampNeg = 10 := rfl
    simp [gw_cp, va_cpy, z0, z10, hc]
  have hS : gz_S I_6 = gz_S I := gz_S_eq (fun p h6 h11 => e1 p (by omega) (by omega))
  have q6 : ∀ Z : Nat → Nat → Int32, Z = gw_cp I 13 59 (0 : Int32).toNatClampNeg (0 : Int32).toNatClampNeg (10 : Int32).toNatClampNeg → ∀ p, p ≠ 59 → Z p = I p := fun Z hZ p hp => by rw [hZ]; funext z; simp [gw_cp, hp]
  have v57 : I_6 57 6 = I 12 1 ∧ I_6 57 7 = Int32.ofNat bc ∧ I_6 57 11 = I 12 3 ∧ I_6 57 12 = I 6 3 - I 12 3 ∧ I_6 57 10 = 0 := by
    have f1 := q6 I_1 hI_1 12 (by omega)
    have f2 := q6 I_1 hI_1 6 (by omega)
    refine ⟨?_, ?_, ?_, ?_, ?_⟩ <;> subst hI_6 hI_5 hI_4 hI_3 hI_2 <;> simp [gw_u, f1, f2]
  exact gs_ret (pc := 59) (gd gk_50 32 rfl) rfl (Nat.zero_le _) (Nat.zero_le _) (⟨rfl, I_6, rfl, e1, ⟨by rw [hS]; exact hok, by rw [v57.2.2.1]; exact hh, by rw [v57.2.2.2.1, hW0, hh, ← hW, Int32.ofNat_add]; grind, hW, v57.2.1, hbc, by rw [e1 78 (by omega) (by omega)]; exact h78, by rw [e1 79 (by omega) (by omega)]; exact h79, fun m hm => by rw [e1 69 (by omega) (by omega)]; exact h69 m hm, 0, Nat.zero_le _, v57.2.2.2.2, fun q hq => absurd hq (Nat.not_lt_zero _)⟩, v57.1, e2⟩)
theorem c_start_sup {V : gw_V} {n W N : Nat} {I : Nat → Nat → Int32} {J : Nat → Nat → Int64} (bc h0 L : Nat) (hok : gq_ok (gz_S I) W N) (hh : I 14 3 = Int32.ofNat h0) (hW : h0 + L = W) (hbc : bc < 10) (h78 : I 78 0 = 0) (h79 : I 79 0 = 0) (h69 : ∀ m, m < N → I 69 m = 0) : gw_E V 50 (0, [(0, .ref 57), (1, .ref 14), (2, .int (Int32.ofNat bc))], [], gS n I J, 0, 0)
    (fun v w' => v = none ∧ ∃ I2, w' = gS n I2 J ∧ gq_sf I I2 ∧ gq_on I2 W N h0 L bc ∧ I2 57 6 = I 14 1 ∧ ∀ c, c < 10 → I2 59 c = I 15 c) := by
  obtain ⟨hW0, -⟩ := id hok
  have hW0 : I 6 3 = Int32.ofNat W := hW0
  refine gs_aload_n (pc := 0) (gd gk_50 0 rfl) rfl ?_
  refine gs_getR (r := 15) (pc := 1) (gd gk_50 1 rfl) rfl rfl rfl (by decide) ?_
  refine gs_iconst (pc := 4) (gd gk_50 2 rfl) (0) rfl ?_
  refine gs_aload_n (pc := 5) (gd gk_50 3 rfl) rfl ?_
  refine gs_getR (r := 58) (pc := 6) (gd gk_50 4 rfl) rfl rfl rfl (by decide) ?_
  refine gs_iconst (pc := 9) (gd gk_50 5 rfl) (0) rfl ?_
  refine gs_aaloadK (r := 59) (0) (9) (pc := 10) (gd gk_50 6 rfl) (Or.inr rfl) rfl (by decide) (by first | rfl | (simp only [Int32.ofNat_add, Int32.ofNat_mul]; rfl) | (simp only [Int32.ofNat_add, Int32.ofNat_mul])) (by omega) rfl (by omega) ?_
  refine gs_iconst (pc := 11) (gd gk_50 7 rfl) (0) rfl ?_
  refine gs_bipush (pc := 12) (gd gk_50 8 rfl) (10) rfl ?_
  refine gs_copy gs_sl (pc := 14) (gd gk_50 9 rfl) (by decide) (by decide) (Nat.le_of_ble_eq_true rfl) rfl rfl (by decide) (by decide) (by decide) (Nat.le_of_ble_eq_true rfl) (Nat.le_of_ble_eq_true rfl) (fun I_1 hI_1 => ?_)
  refine gs_aload_n (pc := 17) (gd gk_50 10 rfl) rfl ?_
  refine gs_aload_n (pc := 18) (gd gk_50 11 rfl) rfl ?_
  refine gs_getI (pc := 19) (gd gk_50 12 rfl) rfl rfl ?_
  refine gs_putI (pc := 22) (gd gk_50 13 rfl) rfl rfl rfl rfl (fun I_2 hI_2 => ?_)
  refine gs_aload_n (pc := 25) (gd gk_50 14 rfl) rfl ?_
  refine gs_iload_n (pc := 26) (gd gk_50 15 rfl) rfl ?_
  refine gs_putI (pc := 27) (gd gk_50 16 rfl) rfl rfl rfl rfl (fun I_3 hI_3 => ?_)
  refine gs_aload_n (pc := 30) (gd gk_50 17 rfl) rfl ?_
  refine gs_aload_n (pc := 31) (gd gk_50 18 rfl) rfl ?_
  refine gs_getI (pc := 32) (gd gk_50 19 rfl) rfl rfl ?_
  refine gs_putI (pc := 35) (gd gk_50 20 rfl) rfl rfl rfl rfl (fun I_4 hI_4 => ?_)
  refine gs_aload_n (pc := 38) (gd gk_50 21 rfl) rfl ?_
  refine gs_aload_n (pc := 39) (gd gk_50 22 rfl) rfl ?_
  refine gs_getR (r := 6) (pc := 40) (gd gk_50 23 rfl) rfl rfl rfl (by decide) ?_
  refine gs_getI (pc := 43) (gd gk_50 24 rfl) rfl rfl ?_
  refine gs_aload_n (pc := 46) (gd gk_50 25 rfl) rfl ?_
  refine gs_getI (pc := 47) (gd gk_50 26 rfl) rfl rfl ?_
  refine gs_isub (pc := 50) (gd gk_50 27 rfl) ?_
  refine gs_putI (pc := 51) (gd gk_50 28 rfl) rfl rfl rfl rfl (fun I_5 hI_5 => ?_)
  refine gs_aload_n (pc := 54) (gd gk_50 29 rfl) rfl ?_
  refine gs_iconst (pc := 55) (gd gk_50 30 rfl) (0) rfl ?_
  refine gs_putI (pc := 56) (gd gk_50 31 rfl) rfl rfl rfl rfl (fun I_6 hI_6 => ?_)
  -- end 1: return, pc 59, locals [(0, .ref (57)), (1, .ref (14)), (2, .int (Int32.ofNat bc))]
  have e1 : ∀ p, p ≠ 57 → p ≠ 59 → I_6 p = I p := fun p a1 a2 => by rw [hI_6, gw_u_o a1, hI_5, gw_u_o a1, hI_4, gw_u_o a1, hI_3, gw_u_o a1, hI_2, gw_u_o a1, hI_1]; funext z; simp [gw_cp, a2]
  have e2 : ∀ c, c < 10 → I_6 59 c = I 15 c := fun c hc => by
    rw [hI_6, gw_u_o (by omega), hI_5, gw_u_o (by omega), hI_4, gw_u_o (by omega), hI_3, gw_u_o (by omega), hI_2, gw_u_o (by omega), hI_1]
    have z0 : (0 : Int32).toNatClampNeg = 0 := rfl
    have z10 : (10 : Int32).toNatClampNeg = 10 := rfl
    simp [gw_cp, va_cpy, z0, z10, hc]
  have hS : gz_S I_6 = gz_S I := gz_S_eq (fun p h6 h11 => e1 p (by omega) (by omega))
  have q6 : ∀ Z : Nat → Nat → Int32, Z = gw_cp I 15 59 (0 : Int32).toNatClampNeg (0 : Int32).toNatClampNeg (10 : Int32).toNatClampNeg → ∀ p, p ≠ 59 → Z p = I p := fun Z hZ p hp => by rw [hZ]; funext z; simp [gw_cp, hp]
  have v57 : I_6 57 6 = I 14 1 ∧ I_6 57 7 = Int32.ofNat bc ∧ I_6 57 11 = I 14 3 ∧ I_6 57 12 = I 6 3 - I 14 3 ∧ I_6 57 10 = 0 := by
    have f1 := q6 I_1 hI_1 14 (by omega)
    have f2 := q6 I_1 hI_1 6 (by omega)
    refine ⟨?_, ?_, ?_, ?_, ?_⟩ <;> subst hI_6 hI_5 hI_4 hI_3 hI_2 <;> simp [gw_u, f1, f2]
  exact gs_ret (pc := 59) (gd gk_50 32 rfl) rfl (Nat.zero_le _) (Nat.zero_le _) (⟨rfl, I_6, rfl, e1, ⟨by rw [hS]; exact hok, by rw [v57.2.2.1]; exact hh, by rw [v57.2.2.2.1, hW0, hh, ← hW, Int32.ofNat_add]; grind, hW, v57.2.1, hbc, by rw [e1 78 (by omega) (by omega)]; exact h78, by rw [e1 79 (by omega) (by omega)]; exact h79, fun m hm => by rw [e1 69 (by omega) (by omega)]; exact h69 m hm, 0, Nat.zero_le _, v57.2.2.2.2, fun q hq => absurd hq (Nat.not_lt_zero _)⟩, v57.1, e2⟩)
