/-! ===== what both answer is the same where their streets and smells are ===== -/
def gv_ag (σ τ : Nat → Nat → Int32) (W N : Nat) (s t : Nat → Int32) : Prop := gq_sim σ τ N ∧ (∀ h, h < W → σ 1 h = τ 1 h) ∧ (∀ c, c < 10 → s c = t c) ∧ gq_ok σ W N ∧ gq_ok τ W N
section
variable {σ τ : Nat → Nat → Int32} {W N h0 L bc : Nat} {s t : Nat → Int32} {ch : Int32}
theorem av_wd (hA : gv_ag σ τ W N s t) (hL : h0 + L = W) (tr : Int32) : ∀ q, q < L → gq_wd σ tr (h0 + q) = gq_wd τ tr (h0 + q) := fun q hq => by
  unfold gq_wd
  rw [hA.2.1 (h0 + q) (by omega)]
theorem av_cm (hA : gv_ag σ τ W N s t) (hL : h0 + L = W) (tr : Int32) (pl so : Nat → Bool) : gq_cm σ (fun q => gq_wd σ tr (h0 + q)) pl bc ch s so N L = gq_cm τ (fun q => gq_wd τ tr (h0 + q)) pl bc ch t so N L :=
  gq_cm_k hA.1 (av_wd hA hL tr) (fun _ _ => rfl) hA.2.2.1 (fun _ _ => rfl) (gq_ok_n hA.2.2.2.1) L (Nat.le_refl L)
theorem av_hd (hA : gv_ag σ τ W N s t) (hL : h0 + L = W) (tr : Int32) (pl : Nat → Bool) : gq_hd σ (fun q => gq_wd σ tr (h0 + q)) pl bc ch s N L = gq_hd τ (fun q => gq_wd τ tr (h0 + q)) pl bc ch t N L :=
  gq_hd_k hA.1 (av_wd hA hL tr) (fun _ _ => rfl) hA.2.2.1 (gq_ok_n hA.2.2.2.1) L (Nat.le_refl L)
theorem av_pd (hA : gv_ag σ τ W N s t) (hL : h0 + L = W) (tr : Int32) (pl : Nat → Bool) {m : Nat} (hm : m < N) : gq_pd σ (fun q => gq_wd σ tr (h0 + q)) pl bc ch s m L = gq_pd τ (fun q => gq_wd τ tr (h0 + q)) pl bc ch t m L :=
  gq_pd_k hm hA.1 (av_wd hA hL tr) (fun _ _ => rfl) hA.2.2.1 (gq_ok_n hA.2.2.2.1) L (Nat.le_refl L)
theorem av_sq (hA : gv_ag σ τ W N s t) (hL : h0 + L = W) (tr : Int32) (pl : Nat → Bool) : ∀ g, g ≤ L → ∀ c, c < 10 → gq_sq σ (fun q => gq_wd σ tr (h0 + q)) pl bc ch s g c = gq_sq τ (fun q => gq_wd τ tr (h0 + q)) pl bc ch t g c :=
  gq_sq_k hA.1 (av_wd hA hL tr) (fun _ _ => rfl) hA.2.2.1
theorem av_val (hA : gv_ag σ τ W N s t) (hL : h0 + L = W) (so : Nat → Bool) : gq_val σ N h0 L bc ch s so = gq_val τ N h0 L bc ch t so := by
  funext p
  exact av_cm hA hL 0 _ so
theorem av_hv (hA : gv_ag σ τ W N s t) (hL : h0 + L = W) : gq_hv σ N h0 L bc ch s = gq_hv τ N h0 L bc ch t := by
  funext p
  exact av_hd hA hL 0 _
theorem av_who (hA : gv_ag σ τ W N s t) : gq_who σ s N = gq_who τ t N := by
  rw [gq_who_c hA.2.2.1 (gq_ok_n hA.2.2.2.1), gq_who_k hA.1 t (Nat.le_refl N)]
theorem av_nx (hA : gv_ag σ τ W N s t) (h : h0 < W) (bk : Bool) : ∀ c, c < 10 → gq_nx σ h0 bc bk ch s c = gq_nx τ h0 bc bk ch t c := fun c _ => by
  show gq_st σ (σ 1 h0) bk bc ch s c = gq_st τ (τ 1 h0) bk bc ch t c
  rw [gq_st_c hA.2.2.1, gq_st_k hA.1, hA.2.1 h0 h]
theorem av_oa {told x y : Int32} (hA : gv_ag σ τ W N s t) (hL : h0 + L = W) (h1 : gq_oa (gq_hv σ N h0 L bc ch s) told N h0 L x) (h2 : gq_oa (gq_hv τ N h0 L bc ch t) told N h0 L y) : x = y := by
  rw [av_hv hA hL] at h1
  unfold gq_oa at h1 h2
  by_cases e : gz_rg told 0 (Int32.ofNat (2 ^ N) - 1) = true
  · rw [if_pos e] at h1 h2
    rcases h1 with ⟨p, rfl, a1⟩ | ⟨rfl, a1⟩ <;> rcases h2 with ⟨q, rfl, b1⟩ | ⟨rfl, b1⟩
    · rw [gq_onl_one a1 b1]
    · exact absurd a1.2.1 (b1 p a1.1)
    · exact absurd b1.2.1 (a1 q b1.1)
    · rfl
  · rw [if_neg e] at h1 h2
    rw [h1, h2]
theorem av_jg {x row y z : Int32} (hA : gv_ag σ τ W N s t) (hL : h0 + L = W) (h1 : gz_jg σ N h0 L bc ch s x row y) (h2 : gz_jg τ N h0 L bc ch t x row z) : y = z := by
  unfold gz_jg at h1 h2
  by_cases e : (1 ≤ x ∧ x ≤ 8) ∧ 0 ≤ row ∧ row < Int32.ofNat (10 ^ x.toNatClampNeg)
  · rw [if_pos e] at h1 h2
    refine gz_fst_one (fun k _ => ?_) h1 h2
    unfold gq_jb
    by_cases hk : k < L
    · have : gq_jh σ N h0 bc ch s row x.toNatClampNeg k = gq_jh τ N h0 bc ch t row x.toNatClampNeg k := by
        unfold gq_jh
        rw [gq_hc_c (av_sq hA hL 0 _ (k + 1) (by omega)) (gq_ok_n hA.2.2.2.1), gq_hc_k hA.1 _ _ _ (fun _ _ => rfl) (Nat.le_refl N)]
        rw [show gq_w0 σ h0 k = gq_w0 τ h0 k from av_wd hA hL 0 k hk]
      rw [this]
    · rw [decide_eq_true (show L ≤ k by omega)]; simp only [Bool.true_or]
  · rw [if_neg e] at h1 h2
    rw [h1, h2]
theorem av_sh {x : Int32} {up : Bool} {b d : Nat → Int32} (hA : gv_ag σ τ W N s t) (hL : h0 + L = W) (h1 : gz_lt x N = true → ∀ k, k < 2 ^ N → gq_mx (gq_vs σ N h0 L bc ch s k) h0 L (b k)) (h2 : gz_lt x N = true → ∀ k, k < 2 ^ N → gq_mx (gq_vs τ N h0 L bc ch t k) h0 L (d k)) : gz_sa b N x up = gz_sa d N x up := by
  unfold gz_sa
  by_cases e : gz_lt x N = true
  · rw [if_pos e, if_pos e]
    have hN6 := hA.2.2.2.1.2.2.2.1
    obtain ⟨m, hm, rfl⟩ := gz_lt_nat e (by omega)
    have hbd : ∀ k, k < 2 ^ N → b k = d k := fun k hk => gq_mx_one (fun p _ => congrFun (av_val hA hL _) p) (h1 e k hk) (h2 e k hk)
    have : gz_sj b N m = gz_sj d N m := by
      unfold gz_sj
      refine gy_S_c _ (fun k hk => ?_)
      by_cases q : k.testBit m = true
      · rw [if_pos q, if_pos q]
      · rw [if_neg q, if_neg q, hbd k hk, hbd _ (gz_gr hN6 hm hk (by simpa using q)).1]
    rw [znn (by omega), this]
  · rw [if_neg e, if_neg e]
theorem av_ms (hA : gv_ag σ τ W N s t) (hL : h0 + L = W) (x : Int64) : ∀ k, gz_ms σ N h0 L bc ch s x k = gz_ms τ N h0 L bc ch t x k
  | 0 => rfl
  | k + 1 => by
    unfold gz_ms
    rw [av_ms hA hL x k, av_cm hA hL 0]
theorem av_sp (hA : gv_ag σ τ W N (fun _ => 0) (fun _ => 0)) (sz : Nat) (no ho : Nat → Nat) (hd : Nat → Bool) : gq_sp σ W N bc sz no ho hd = gq_sp τ W N bc sz no ho hd := by
  funext p
  unfold gq_sp
  refine gq_ag_c (fun g hg m hm => ?_) sz
  show gq_has σ _ m = gq_has τ _ m
  rw [gq_has_c (av_sq (h0 := 0) (L := W) hA (by omega) 0 _ (g + 1) (by omega)) (gq_ok_n hA.2.2.2.1 m hm), gq_has_k hA.1 hm]
theorem av_nz (hA : gv_ag σ τ W N s t) (x u : Int32) : gq_nz σ s N x u = gq_nz τ t N x u := by
  unfold gq_nz
  by_cases e : gz_lt x N = true
  · rw [if_pos e, if_pos e]
    have hN6 := hA.2.2.2.1.2.2.2.1
    obtain ⟨m, hm, rfl⟩ := gz_lt_nat e (by omega)
    rw [znn (by omega), gq_has_c hA.2.2.1 (gq_ok_n hA.2.2.2.1 m hm), gq_has_k hA.1 hm, hA.1.2.2 m hm 2 (by omega) (by omega), hA.1.2.2 m hm 3 (by omega) (by omega), hA.1.2.2 m hm 4 (by omega) (by omega), hA.1.2.2 m hm 5 (by omega) (by omega)]
  · rw [if_neg e, if_neg e]
theorem av_u (hA : gv_ag σ τ W N s t) (hL : h0 + L = W) (pl : Int32) {o : Option Nat} (ho : gy_on o N) : gy_vi σ N h0 L bc ch s pl o = gy_vi τ N h0 L bc ch t pl o := by
  funext q
  show (gy_u σ N h0 L bc ch s pl o _).toInt = (gy_u τ N h0 L bc ch t pl o _).toInt
  cases o with
  | none => exact congrArg Int32.toInt (av_cm hA hL _ _ _)
  | some m => exact congrArg Int32.toInt (av_pd hA hL _ _ (ho m rfl))
theorem gy_flip : ∀ j, j < 8 → ∀ q, q < 256 → (q.testBit j || (List.range 8).all (fun i => decide (i = j) || ((q + 2 ^ j).testBit i == q.testBit i))) = true := by decide +kernel
theorem av_inv {τ : Nat → Nat → Int32} (hok : gq_ok τ W N) (hL : h0 + L = W) (pl : Int32) {o : Option Nat} (ho : gy_on o N) {j q : Nat} (hj : j < W) (hz : τ 1 j = 0) (hq : q < 2 ^ W) (hb : q.testBit j = false) : gy_vi τ N h0 L bc ch t pl o (q + 2 ^ j) = gy_vi τ N h0 L bc ch t pl o q := by
  have hW8 := hok.2.1
  have hpw : 2 ^ W ≤ 256 := Nat.le_trans (Nat.pow_le_pow_right (by omega) hW8) (by decide)
  have hbit : ∀ i, i < 8 → i ≠ j → (q + 2 ^ j).testBit i = q.testBit i := by
    intro i hi hne
    have := gy_flip j (by omega) q (by omega)
    rw [hb, Bool.false_or, List.all_eq_true] at this
    have := this i (List.mem_range.mpr hi)
    rw [decide_eq_false hne, Bool.false_or] at this
    exact eq_of_beq this
  have hw : ∀ k, k < L → gq_wd τ (Int32.ofNat (q + 2 ^ j)) (h0 + k) = gq_wd τ (Int32.ofNat q) (h0 + k) := by
    intro k hk
    unfold gq_wd
    by_cases e : h0 + k = j
    · rw [e, hz]
      have : (-(0 : Int32)) = 0 := by decide
      rw [this, ite_self, ite_self]
    · rw [gz_bitn _ (by omega), gz_bitn _ (by omega), hbit _ (by omega) e]
  show (gy_u τ N h0 L bc ch t pl o _).toInt = (gy_u τ N h0 L bc ch t pl o _).toInt
  cases o with
  | none => exact congrArg Int32.toInt (gq_cm_k (gq_sim_rf _ N) hw (fun _ _ => rfl) (fun _ _ => rfl) (fun _ _ => rfl) (gq_ok_n hok) L (Nat.le_refl L))
  | some m => exact congrArg Int32.toInt (gq_pd_k (ho m rfl) (gq_sim_rf _ N) hw (fun _ _ => rfl) (fun _ _ => rfl) (gq_ok_n hok) L (Nat.le_refl L))
theorem av_mean (hA : gv_ag σ τ W N s t) (hL : h0 + L = W) (pl x : Int32) {o : Option Nat} (ho : gy_on o N) (up : Bool) : gy_a σ (gy_c h0) W N h0 L bc ch s pl x o (10 ^ L) up = gy_a τ (gy_m τ h0) W N h0 L bc ch t pl x o (10 ^ gy_n (gy_m τ h0) W) up := by
  have hW8 := hA.2.2.2.1.2.1
  unfold gy_a
  by_cases e : (gz_rg pl 0 255 && gz_rg x 0 10) = true
  · rw [if_pos e, if_pos e, av_u hA hL pl ho]
    refine congrArg Int64.ofInt (gz_fr_one (by have := Nat.pow_pos (n := L) (show 0 < 10 by omega); omega) (by have := Nat.pow_pos (n := gy_n (gy_m τ h0) W) (show 0 < 10 by omega); omega) ?_)
    have hn := gy_c_n0 h0 (by omega) L (by omega) (by omega)
    have := gy_T_fr (c := gy_c h0) (d := gy_m τ h0) (X := (x.toNatClampNeg : Int)) (Y := 10 - (x.toNatClampNeg : Int)) (by omega) W (gy_vi τ N h0 L bc ch t pl o) (fun j _ hd => ((Bool.and_eq_true _ _).mp hd).1) (fun j hj hc hd q hq hb => ?_)
    · rw [Int.natCast_pow, Int.natCast_pow]
      rw [← hL, hn, hL] at this
      exact this
    · have hz : τ 1 j = 0 := by
        have hc : decide (h0 ≤ j) = true := hc
        have hd : (decide (h0 ≤ j) && decide (¬ τ 1 j = 0)) = false := hd
        rw [hc, Bool.true_and] at hd
        simpa using hd
      exact av_inv hA.2.2.2.2 hL pl ho hj hz hq hb
  · rw [if_neg e, if_neg e]
theorem av_e {A B A2 B2 : Nat → Nat → Int32} (hs : gq_sim σ τ N) (g : Nat) (hw : σ 1 (h0 + g) = τ 1 (h0 + g)) (hA : ∀ m, m < N → A g m = A2 g m) (hB : ∀ m, m < N → B g m = B2 g m) (x : Int32) : ∀ k, k ≤ N → gq_e1 σ h0 A B g x k = gq_e1 τ h0 A2 B2 g x k ∧ gq_e2 σ h0 A B g x k = gq_e2 τ h0 A2 B2 g x k
  | 0, _ => ⟨rfl, rfl⟩
  | k + 1, hk => by
    have ih := av_e hs g hw hA hB x k (by omega)
    have hd : gq_du σ h0 (A g k) (B g k) g k = gq_du τ h0 (A2 g k) (B2 g k) g k := by
      unfold gq_du
      rw [hA k (by omega), hB k (by omega), gq_due_k hs (by omega), hs.2.2 k (by omega) 3 (by omega) (by omega), hw]
    unfold gq_e1 gq_e2
    rw [hd, hA k (by omega), hB k (by omega), ih.1, ih.2]
    exact ⟨rfl, rfl⟩
theorem av_f {A B A2 B2 : Nat → Nat → Int32} (hs : gq_sim σ τ N) (hw : ∀ g, g < L → σ 1 (h0 + g) = τ 1 (h0 + g)) (hA : ∀ g, g < L → ∀ m, m < N → A g m = A2 g m) (hB : ∀ g, g < L → ∀ m, m < N → B g m = B2 g m) (x : Int32) : ∀ g, g ≤ L → gq_f1 σ N h0 A B x g = gq_f1 τ N h0 A2 B2 x g ∧ gq_f2 σ N h0 A B x g = gq_f2 τ N h0 A2 B2 x g
  | 0, _ => ⟨rfl, rfl⟩
  | g + 1, hg => by
    have ih := av_f hs hw hA hB x g (by omega)
    unfold gq_f1 gq_f2
    rw [ih.1, ih.2]
    exact ⟨(av_e hs g (hw g (by omega)) (hA g (by omega)) (hB g (by omega)) _ N (Nat.le_refl N)).1, (av_e hs g (hw g (by omega)) (hA g (by omega)) (hB g (by omega)) _ N (Nat.le_refl N)).2⟩
theorem av_fs (hA : gv_ag σ τ W N s t) (hL : h0 + L = W) (a : Nat) : ∀ g, g < L → ∀ m, m < N → gq_fs σ h0 bc ch s a g m = gq_fs τ h0 bc ch t a g m := fun g hg m hm => by
  unfold gq_fs
  have h2 := gq_ok_n hA.2.2.2.1 m hm
  rw [← hA.1.2.2 m hm 2 (by omega) (by omega)]
  exact av_sq hA hL 0 _ (g + 1) (by omega) _ (by have := (zle_l h2.1 (n := 9) (by decide)).mp h2.2; omega)
theorem av_ba (hA : gv_ag σ τ W N s t) (hL : h0 + L = W) (c x : Int32) : gq_ba σ N h0 L bc ch s c x = gq_ba τ N h0 L bc ch t c x := by
  have hA0 : gv_ag σ τ W N (fun _ => 0) (fun _ => 0) := ⟨hA.1, hA.2.1, fun _ _ => rfl, hA.2.2.2.1, hA.2.2.2.2⟩
  have hw : ∀ g, g < L → σ 1 (h0 + g) = τ 1 (h0 + g) := fun g hg => hA.2.1 _ (by omega)
  have e : gq_bk σ N h0 L bc c.toNatClampNeg ch s = gq_bk τ N h0 L bc c.toNatClampNeg ch t := by
    unfold gq_bk
    rw [gq_R_c (F2 := gq_F1 τ N h0 L bc c.toNatClampNeg ch t) (G2 := gq_F2 τ N h0 L bc c.toNatClampNeg ch t) (fun a _ b _ => ?_) (fun a _ b _ => ?_)]
    · unfold gq_F1
      rw [hA.1.2.1]
      exact (av_f hA.1 hw (av_fs hA hL a) (av_fs hA0 hL b) _ L (Nat.le_refl L)).1
    · unfold gq_F2
      rw [hA.1.2.1]
      exact (av_f hA.1 hw (av_fs hA hL a) (av_fs hA0 hL b) _ L (Nat.le_refl L)).2
  unfold gq_ba
  rw [e]
end
