/-! ===== the best plan: bounds, order; the class's Choice ===== -/
theorem zadd_b {a b : Int32} {x y u v : Int} (ha : x ≤ a.toInt ∧ a.toInt ≤ y) (hb : u ≤ b.toInt ∧ b.toInt ≤ v) (h1 : -2000000000 ≤ x + u) (h2 : y + v ≤ 2000000000) : (a + b).toInt = a.toInt + b.toInt := by
  rw [Int32.toInt_add]
  exact Int.bmod_eq_of_le (by omega) (by omega)
theorem gq_due_b {σ : Nat → Nat → Int32} {m : Nat} {h e : Bool} (hp : 0 ≤ σ 4 m ∧ σ 4 m ≤ 9) : -9 ≤ (gq_due σ m h e).toInt ∧ (gq_due σ m h e).toInt ≤ 9 := by
  have k1 : -9 ≤ (σ 4 m).toInt ∧ (σ 4 m).toInt ≤ 9 := by
    have a := Int32.le_iff_toInt_le.mp hp.1
    have b := Int32.le_iff_toInt_le.mp hp.2
    exact ⟨by have : (0 : Int32).toInt = 0 := rfl; omega, by have : (9 : Int32).toInt = 9 := rfl; omega⟩
  have k2 : -9 ≤ (-(σ 4 m)).toInt ∧ (-(σ 4 m)).toInt ≤ 9 := by
    have a := Int32.le_iff_toInt_le.mp hp.1
    have z : (0 : Int32).toInt = 0 := rfl
    rw [Int32.toInt_neg]
    rw [Int.bmod_eq_of_le (by omega) (by omega)]
    omega
  have k3 : -9 ≤ (0 : Int32).toInt ∧ (0 : Int32).toInt ≤ 9 := by decide
  unfold gq_due
  repeat' split
  all_goals first | exact k1 | exact k2 | exact k3
theorem gq_hc_b {σ : Nat → Nat → Int32} {sm : Nat → Int32} {bk ea : Bool} {so : Nat → Bool} (hc : 0 ≤ σ 0 2 ∧ σ 0 2 ≤ 9) : ∀ {N : Nat}, N ≤ 6 → (∀ m, m < N → 0 ≤ σ 4 m ∧ σ 4 m ≤ 9) → -(9 + 9 * (N : Int)) ≤ (gq_hc σ sm bk ea so N).toInt ∧ (gq_hc σ sm bk ea so N).toInt ≤ 9 + 9 * (N : Int)
  | 0, _, _ => by
    have a := Int32.le_iff_toInt_le.mp hc.1
    have b := Int32.le_iff_toInt_le.mp hc.2
    have z : (0 : Int32).toInt = 0 := rfl
    have z9 : (9 : Int32).toInt = 9 := rfl
    unfold gq_hc
    split
    · rw [Int32.toInt_neg, Int.bmod_eq_of_le (by omega) (by omega)]
      omega
    · omega
  | N + 1, h6, hp => by
    have ih := gq_hc_b (sm := sm) (bk := bk) (ea := ea) (so := so) hc (N := N) (by omega) (fun m hm => hp m (by omega))
    have hd := gq_due_b (h := gq_has σ sm N) (e := ea) (hp N (by omega))
    have hd2 : -9 ≤ (if so N then gq_due σ N (gq_has σ sm N) ea else 0).toInt ∧ (if so N then gq_due σ N (gq_has σ sm N) ea else 0).toInt ≤ 9 := by
      split
      · exact hd
      · decide
    unfold gq_hc
    rw [zadd_b ih hd2 (by omega) (by omega)]
    omega
theorem gq_cm_b {σ : Nat → Nat → Int32} {W N : Nat} (hok : gq_ok σ W N) (wd : Nat → Int32) (pl : Nat → Bool) (bc : Nat) (ch : Int32) (s0 : Nat → Int32) (so : Nat → Bool) : ∀ {g : Nat}, g ≤ 8 → -(63 * (g : Int)) ≤ (gq_cm σ wd pl bc ch s0 so N g).toInt ∧ (gq_cm σ wd pl bc ch s0 so N g).toInt ≤ 63 * (g : Int)
  | 0, _ => by show _ ≤ (0 : Int32).toInt ∧ (0 : Int32).toInt ≤ _; have : (0 : Int32).toInt = 0 := rfl; omega
  | g + 1, hg => by
    obtain ⟨-, -, -, h6, -, -, hc, -, hns⟩ := id hok
    have ih := gq_cm_b hok wd pl bc ch s0 so (g := g) (by omega)
    have hh := gq_hc_b (sm := gq_sq σ wd pl bc ch s0 (g + 1)) (bk := pl g) (ea := decide (wd g = 1)) (so := so) hc h6 (fun m hm => (hns m hm).2.2.1)
    have hh2 : -63 ≤ (gq_hc σ (gq_sq σ wd pl bc ch s0 (g + 1)) (pl g) (decide (wd g = 1)) so N).toInt ∧ (gq_hc σ (gq_sq σ wd pl bc ch s0 (g + 1)) (pl g) (decide (wd g = 1)) so N).toInt ≤ 63 := by omega
    unfold gq_cm
    rw [zadd_b ih hh2 (by omega) (by omega)]
    omega
/-- a set of hours from h0 on, L of them -/
def gz_su (q h0 L : Nat) : Prop := q % 2 ^ h0 = 0 ∧ q < 2 ^ (h0 + L)
theorem gz_sn_su : ∀ h0, h0 < 9 → ∀ L, L < 9 → h0 + L < 9 → ∀ num, num < 2 ^ L → gz_sn num h0 L L % 2 ^ h0 = 0 ∧ gz_sn num h0 L L < 2 ^ (h0 + L) := by decide +kernel
/-- the number of a set: its bits, turned round -/
def gz_ns (q h0 L : Nat) : Nat → Nat
  | 0 => 0
  | b + 1 => gz_ns q h0 L b + (if q.testBit (h0 + L - 1 - b) then 2 ^ b else 0)
theorem gz_su_sn0 : ∀ h0, h0 < 9 → ∀ L, L < 9 → h0 + L < 9 → ∀ q, q < 2 ^ (h0 + L) → (decide (q % 2 ^ h0 ≠ 0) || (decide (gz_ns q h0 L L < 2 ^ L) && decide (gz_sn (gz_ns q h0 L L) h0 L L = q))) = true := by decide +kernel
theorem gz_su_sn (h0 : Nat) (a : h0 < 9) (L : Nat) (b : L < 9) (c : h0 + L < 9) (q : Nat) (d : q < 2 ^ (h0 + L)) : (q % 2 ^ h0 ≠ 0 ∨ (gz_ns q h0 L L < 2 ^ L ∧ gz_sn (gz_ns q h0 L L) h0 L L = q)) := by
  have := gz_su_sn0 h0 a L b c q d
  simpa using this
/-- p is as good as q or better: more comes, or as much by fewer hours, or by like hours and p is the smaller -/
def gq_ge (val : Nat → Int32) (p q : Nat) : Prop := (val q).toInt < (val p).toInt ∨ (val q).toInt = (val p).toInt ∧ (gz_pc p < gz_pc q ∨ gz_pc p = gz_pc q ∧ p ≤ q)
def gq_bst (val : Nat → Int32) (h0 L p : Nat) : Prop := gz_su p h0 L ∧ ∀ q, gz_su q h0 L → gq_ge val p q
theorem gq_bst_one {val : Nat → Int32} {h0 L p q : Nat} (h1 : gq_bst val h0 L p) (h2 : gq_bst val h0 L q) : p = q := by
  have a := h1.2 q h2.1
  have b := h2.2 p h1.1
  unfold gq_ge at a b
  omega
theorem gq_ge_tr {val : Nat → Int32} {p q r : Nat} (h1 : gq_ge val p q) (h2 : gq_ge val q r) : gq_ge val p r := by
  unfold gq_ge at *
  omega
theorem gq_ge_rf (val : Nat → Int32) (p : Nat) : gq_ge val p p := by unfold gq_ge; omega
theorem gq_wf_on {I I2 : Nat → Nat → Int32} {W N h0 L bc : Nat} (h57 : I2 57 = I 57) (ho : ∀ p, p ≠ 81 → I2 p = I p) (h : gq_on I W N h0 L bc) : gq_on I2 W N h0 L bc := by
  have hS : gz_S I2 = gz_S I := gz_S_eq (fun p _ _ => ho p (by omega))
  obtain ⟨a0, a1, a2, a3, a4, a5, a6, a7, a8, fo, a9, a10, a11⟩ := h
  have hW8 := a0.2.1
  refine ⟨by rw [hS]; exact a0, by rw [h57]; exact a1, by rw [h57]; exact a2, a3, by rw [h57]; exact a4, a5, by rw [ho 78 (by omega)]; exact a6, by rw [ho 79 (by omega)]; exact a7, fun m hm => by rw [ho 69 (by omega)]; exact a8 m hm, fo, a9, by rw [h57]; exact a10, fun q hq => ?_⟩
  rw [hS, h57]
  exact gq_rel_eq (a11 q hq) hS (ho _ (by omega)) (ho _ (by omega)) (ho _ (by omega)) (ho _ (by omega)) (fun p hp => by rw [ho p (by omega)]; exact ⟨rfl, rfl⟩)
/-- what comes by a plan: the class's walk -/
abbrev gq_val (σ : Nat → Nat → Int32) (N h0 L bc : Nat) (ch : Int32) (s0 : Nat → Int32) (so : Nat → Bool) : Nat → Int32 := fun p => gq_cm σ (fun q => gq_wd σ 0 (h0 + q)) (fun q => gz_in (Int32.ofNat p) (Int32.ofNat (h0 + q))) bc ch s0 so N L
abbrev cq_best (n : Nat) (I : Nat → Nat → Int32) (J : Nat → Nat → Int64) (N h0 L bc : Nat) : Option Value → gw_W → Prop := fun v w' => v = none ∧ ∃ I2 p, w' = gS n I2 J ∧ gq_qf I I2 ∧ I2 81 1 = Int32.ofNat p ∧ I2 81 2 = gq_val (gz_S I) N h0 L bc (I 57 6) (I 59) (fun _ => true) p ∧ gq_bst (gq_val (gz_S I) N h0 L bc (I 57 6) (I 59) (fun _ => true)) h0 L p
theorem c_findBest {V : gw_V} {n W N h0 L bc : Nat} {I : Nat → Nat → Int32} {J : Nat → Nat → Int64} (hon : gq_on I W N h0 L bc) : gw_E V 5 (0, [(0, .ref 81)], [], gS n I J, 0, 0) (cq_best n I J N h0 L bc) := by
  obtain ⟨hok, -, -, hW, -⟩ := id hon
  have hW8 : W ≤ 8 := hok.2.1
  generalize hval : gq_val (gz_S I) N h0 L bc (I 57 6) (I 59) (fun _ => true) = val
  have hvb : ∀ p, -504 ≤ (val p).toInt ∧ (val p).toInt ≤ 504 := fun p => by
    rw [← hval]
    show -504 ≤ (gq_cm _ _ _ _ _ _ _ _ _).toInt ∧ (gq_cm _ _ _ _ _ _ _ _ _).toInt ≤ 504
    have := gq_cm_b hok (fun q => gq_wd (gz_S I) 0 (h0 + q)) (fun q => gz_in (Int32.ofNat p) (Int32.ofNat (h0 + q))) bc (I 57 6) (I 59) (fun _ => true) (g := L) (by omega)
    omega
  have hpw : 2 ^ L ≤ 256 := Nat.le_trans (Nat.pow_le_pow_right (by omega) (show L ≤ 8 by omega)) (by decide)
  have lp : ∀ (m k : Nat), m + k = 2 ^ L → ∀ I1, gq_on I1 W N h0 L bc → gq_qf I I1 → I1 59 = I 59 → I1 57 6 = I 57 6 → (0 < k → ∃ j, j < k ∧ I1 81 1 = Int32.ofNat (gz_sn j h0 L L) ∧ I1 81 2 = val (gz_sn j h0 L L) ∧ ∀ i, i < k → gq_ge val (gz_sn j h0 L L) (gz_sn i h0 L L)) → gw_E V 5 (2, [(0, .ref 81), (1, .int (Int32.ofNat k))], [], gS n I1 J, 0, 0) (cq_best n I J N h0 L bc) := by
    intro m
    induction m with
    | zero =>
      intro k hk I1 h1 h2 h3 h4 h5
      obtain rfl : k = 2 ^ L := by omega
      refine gs_iload_n (pc := 2) (gd gk_5 2 rfl) rfl ?_
      refine gs_aload_n (pc := 3) (gd gk_5 3 rfl) rfl ?_
      refine gs_getR (r := 57) (pc := 4) (gd gk_5 4 rfl) rfl rfl rfl (by decide) ?_
      refine gs_callV (as := []) (pc := 7) (gd gk_5 5 rfl) (by decide) rfl (by decide) rfl rfl (Nat.le_of_ble_eq_true rfl) gq_5_51 (Nat.le_of_ble_eq_true rfl) (c_sets (L := L) h1.2.2.1 (by omega)) (fun r_7 w_7 q_7 => ?_)
      obtain ⟨rfl, rfl⟩ := q_7
      refine gs_icmp_ge (pc := 10) (gd gk_5 6 rfl) (fun c10 => ?_) (fun c10 => ?_)
      · replace c10 : (2 ^ L) ≤ (2 ^ L) := (zle (k := (2 ^ L)) (m := (2 ^ L)) (by omega) (by omega)).mp c10
        -- end 1: return, pc 89, locals [(0, .ref (81)), (1, .int (Int32.ofNat (2 ^ L)))]
        obtain ⟨j, hj, e1, e2, e3⟩ := h5 (Nat.two_pow_pos L)
        have hs := gz_sn_su h0 (by omega) L (by omega) (by omega) j hj
        exact gs_ret (pc := 89) (gd gk_5 45 rfl) rfl (Nat.zero_le _) (Nat.zero_le _) (⟨rfl, I1, gz_sn j h0 L L, rfl, h2, e1, by rw [e2, hval], ⟨hs, fun q hq => by
          have := (gz_su_sn h0 (by omega) L (by omega) (by omega) q hq.2).resolve_left (fun z => z hq.1)
          rw [hval, ← this.2]
          exact e3 _ this.1⟩⟩)
      · replace c10 : ¬ ((2 ^ L) ≤ (2 ^ L)) := fun q9 => c10 ((zle (k := (2 ^ L)) (m := (2 ^ L)) (by omega) (by omega)).mpr q9)
        -- end 2: stop, pc 13, locals [(0, .ref (81)), (1, .int (Int32.ofNat (2 ^ L)))]
        exact absurd (Nat.le_refl _) c10
    | succ m ih =>
      intro k hk I1 h1 h2 h3 h4 h5
      have hS1 : gz_S I1 = gz_S I := gq_qf_S h2
      have hkL : k < 2 ^ L := by omega
      have hsn := gz_se_sn h0 (by omega) L (by omega) (by omega) k hkL
      have goon : ∀ I2, gq_on I2 W N h0 L bc → gq_qf I I2 → I2 59 = I 59 → I2 57 6 = I 57 6 → (∃ j, j < k + 1 ∧ I2 81 1 = Int32.ofNat (gz_sn j h0 L L) ∧ I2 81 2 = val (gz_sn j h0 L L) ∧ ∀ i, i < k + 1 → gq_ge val (gz_sn j h0 L L) (gz_sn i h0 L L)) → gw_E V 5 (2, [(0, .ref 81), (1, .int (Int32.ofNat (k + 1)))], [], gS n I2 J, 0, 0) (cq_best n I J N h0 L bc) := fun I2 a b c d e => ih (k + 1) (by omega) I2 a b c d (fun _ => e)
      have upd2 : ∀ I2 I3 I4, gq_on I2 W N h0 L bc → gq_qf I I2 → I2 59 = I 59 → I2 57 6 = I 57 6 → I3 = gw_u I2 81 1 (Int32.ofNat (gz_sn k h0 L L)) → I4 = gw_u I3 81 2 (val (gz_sn k h0 L L)) → (∀ i, i < k → gq_ge val (gz_sn k h0 L L) (gz_sn i h0 L L)) → gw_E V 5 (2, [(0, .ref 81), (1, .int (Int32.ofNat (k + 1)))], [], gS n I4 J, 0, 0) (cq_best n I J N h0 L bc) := by
        intro I2 I3 I4 a1 a2 a3 a4 e3 e4 a5
        have ho : ∀ p, p ≠ 81 → I4 p = I2 p := fun p hp => by rw [e4, gw_u_o hp, e3, gw_u_o hp]
        refine goon I4 (gq_wf_on (ho 57 (by omega)) ho a1) (gq_qf_tr a2 ⟨fun p _ _ _ => ho p (by omega), by rw [ho 78 (by omega)], by rw [ho 79 (by omega)], ho 69 (by omega)⟩) (by rw [ho 59 (by omega)]; exact a3) (by rw [ho 57 (by omega)]; exact a4) ⟨k, by omega, by rw [e4, gw_u_s, e3, gw_u_s]; simp [upd], by rw [e4, gw_u_s]; simp [upd], fun i hi => ?_⟩
        by_cases q : i = k
        · rw [q]; exact gq_ge_rf val _
        · exact a5 i (by omega)
      refine gs_iload_n (pc := 2) (gd gk_5 2 rfl) rfl ?_
      refine gs_aload_n (pc := 3) (gd gk_5 3 rfl) rfl ?_
      refine gs_getR (r := 57) (pc := 4) (gd gk_5 4 rfl) rfl rfl rfl (by decide) ?_
      refine gs_callV (as := []) (pc := 7) (gd gk_5 5 rfl) (by decide) rfl (by decide) rfl rfl (Nat.le_of_ble_eq_true rfl) gq_5_51 (Nat.le_of_ble_eq_true rfl) (c_sets (L := L) h1.2.2.1 (by omega)) (fun r_7 w_7 q_7 => ?_)
      obtain ⟨rfl, rfl⟩ := q_7
      refine gs_icmp_ge (pc := 10) (gd gk_5 6 rfl) (fun c10 => ?_) (fun c10 => ?_)
      · replace c10 : (2 ^ L) ≤ k := (zle (k := (2 ^ L)) (m := k) (by omega) (by omega)).mp c10
        -- end 1: stop, pc 89, locals [(0, .ref (81)), (1, .int (Int32.ofNat k))]
        exact absurd c10 (by omega)
      · replace c10 : ¬ ((2 ^ L) ≤ k) := fun q9 => c10 ((zle (k := (2 ^ L)) (m := k) (by omega) (by omega)).mpr q9)
        refine gs_aload_n (pc := 13) (gd gk_5 7 rfl) rfl ?_
        refine gs_getR (r := 57) (pc := 14) (gd gk_5 8 rfl) rfl rfl rfl (by decide) ?_
        refine gs_iload_n (pc := 17) (gd gk_5 9 rfl) rfl ?_
        refine gs_callV (as := [.int (Int32.ofNat k)]) (pc := 18) (gd gk_5 10 rfl) (by decide) rfl (by decide) rfl rfl (Nat.le_of_ble_eq_true rfl) gq_5_52 (Nat.le_of_ble_eq_true rfl) (c_set k hkL h1.2.1 h1.2.2.1 (by omega)) (fun r_18 w_18 q_18 => ?_)
        obtain ⟨rfl, rfl⟩ := q_18
        refine gs_istore_n (ls2 := fun v => [(0, .ref (81)), (1, .int (Int32.ofNat k)), (2, .int (v))]) (pc := 21) (gd gk_5 11 rfl) (by rw [gL_5]; decide) (fun _ => rfl) (fun v2_1 hv2_1 => ?_)
        obtain rfl : v2_1 = Int32.ofNat (gz_sn k h0 L L) := hv2_1.trans (by first | rfl | (simp only [Int32.ofNat_add, Int32.ofNat_mul]; rfl) | (simp only [Int32.ofNat_add, Int32.ofNat_mul]))
        refine gs_aload_n (pc := 22) (gd gk_5 12 rfl) rfl ?_
        refine gs_getR (r := 57) (pc := 23) (gd gk_5 13 rfl) rfl rfl rfl (by decide) ?_
        refine gs_iload_n (pc := 26) (gd gk_5 14 rfl) rfl ?_
        refine gs_iconst (pc := 27) (gd gk_5 15 rfl) (0) rfl ?_
        refine gs_callV (as := [.int (Int32.ofNat (gz_sn k h0 L L)), .int (0)]) (pc := 28) (gd gk_5 16 rfl) (by decide) rfl (by decide) rfl rfl (Nat.le_of_ble_eq_true rfl) gq_5_53 (Nat.le_of_ble_eq_true rfl) (c_take2 (Int32.ofNat (gz_sn k h0 L L)) 0 h1) (fun r_28 w_28 q_28 => ?_)
        obtain ⟨rfl, I_t, rfl, t1, t2, t3⟩ := q_28
        have hS2 : gz_S I_t = gz_S I := by rw [gq_wf_S t1]; exact hS1
        have b59 : I_t 59 = I 59 := by rw [t1.1 59 (by omega) (by omega) (by omega)]; exact h3
        have b6 : I_t 57 6 = I 57 6 := by rw [t1.2.2 6 (by omega) (by omega) (by omega)]; exact h4
        have bq : gq_qf I I_t := gq_qf_tr h2 (gq_qf_w t1)
        have hv : I_t 78 L = val (gz_sn k h0 L L) := by rw [(t3 L (Nat.le_refl L)).2.2.1, hS1, h3, h4, ← hval]
        have b81 : I_t 81 = I1 81 := t1.1 81 (by omega) (by omega) (by omega)
        refine gs_aload_n (pc := 31) (gd gk_5 17 rfl) rfl ?_
        refine gs_getR (r := 57) (pc := 32) (gd gk_5 18 rfl) rfl rfl rfl (by decide) ?_
        refine gs_callV (as := []) (pc := 35) (gd gk_5 19 rfl) (by decide) rfl (by decide) rfl rfl (Nat.le_of_ble_eq_true rfl) gq_5_58 (Nat.le_of_ble_eq_true rfl) (c_comes (L := L) t2.2.2.1 (by omega)) (fun r_35 w_35 q_35 => ?_)
        obtain ⟨rfl, rfl⟩ := q_35
        refine gs_aload_n (pc := 38) (gd gk_5 20 rfl) rfl ?_
        refine gs_getI (pc := 39) (gd gk_5 21 rfl) rfl rfl ?_
        refine gs_isub (pc := 42) (gd gk_5 22 rfl) ?_
        refine gs_istore_n (ls2 := fun v => [(0, .ref (81)), (1, .int (Int32.ofNat k)), (2, .int (Int32.ofNat (gz_sn k h0 L L))), (3, .int (v))]) (pc := 43) (gd gk_5 23 rfl) (by rw [gL_5]; decide) (fun _ => rfl) (fun v3_1 hv3_1 => ?_)
        refine gs_iload_n (pc := 44) (gd gk_5 24 rfl) rfl ?_
        refine gs_if_eq (pc := 45) (gd gk_5 25 rfl) (fun c45 => ?_) (fun c45 => ?_)
        · replace c45 : k = 0 := (zeq (k := k) (m := 0) (by omega) (by omega)).mp c45
          refine gs_aload_n (pc := 67) (gd gk_5 35 rfl) rfl ?_
          refine gs_iload_n (pc := 68) (gd gk_5 36 rfl) rfl ?_
          refine gs_putI (pc := 69) (gd gk_5 37 rfl) rfl rfl rfl rfl (fun I_1 hI_1 => ?_)
          refine gs_aload_n (pc := 72) (gd gk_5 38 rfl) rfl ?_
          refine gs_aload_n (pc := 73) (gd gk_5 39 rfl) rfl ?_
          refine gs_getR (r := 57) (pc := 74) (gd gk_5 40 rfl) rfl rfl rfl (by decide) ?_
          refine gs_callV (as := []) (pc := 77) (gd gk_5 41 rfl) (by decide) rfl (by decide) rfl rfl (Nat.le_of_ble_eq_true rfl) gq_5_58 (Nat.le_of_ble_eq_true rfl) (c_comes (L := L) (by rw [hI_1, gw_u_o (by omega)]; exact t2.2.2.1) (by omega)) (fun r_77 w_77 q_77 => ?_)
          obtain ⟨rfl, rfl⟩ := q_77
          refine gs_putI (pc := 80) (gd gk_5 42 rfl) rfl rfl rfl rfl (fun I_2 hI_2 => ?_)
          refine gs_iinc (ls2 := fun v => [(0, .ref (81)), (1, .int (v)), (2, .int (Int32.ofNat (gz_sn k h0 L L))), (3, .int (v3_1))]) (pc := 83) (gd gk_5 43 rfl) rfl (by rw [gL_5]; decide) (fun _ => rfl) (1) rfl (fun v1_1 hv1_1 => ?_)
          obtain rfl : v1_1 = Int32.ofNat (k + 1) := hv1_1.trans (by first | rfl | (simp only [Int32.ofNat_add, Int32.ofNat_mul]; rfl) | (simp only [Int32.ofNat_add, Int32.ofNat_mul]))
          refine gs_goto (pc := 86) (gd gk_5 44 rfl) ?_
          -- end 2: stop, pc 2, locals [(0, .ref (81)), (1, .int (Int32.ofNat (k + 1))), (2, .int (Int32.ofNat (gz_sn k h0 L L))), (3, .int (v3_1))]
          refine gs_drop [0, 1] rfl (upd2 I_t _ _ t2 bq b59 b6 hI_1 (by rw [hI_2]; congr 1; rw [hI_1, gw_u_o (by omega)]; exact hv) (fun i hi => by omega))
        · replace c45 : ¬ (k = 0) := fun q9 => c45 ((zeq (k := k) (m := 0) (by omega) (by omega)).mpr q9)
          obtain ⟨j, hj, e1, e2, e3⟩ := h5 (by omega)
          have hjs := (gz_se_sn h0 (by omega) L (by omega) (by omega) j (by omega)).2
          have hmo : v3_1.toInt = (val (gz_sn k h0 L L)).toInt - (val (gz_sn j h0 L L)).toInt := by
            rw [hv3_1, hv, b81, e2, Int32.toInt_sub]
            have := hvb (gz_sn k h0 L L)
            have := hvb (gz_sn j h0 L L)
            exact Int.bmod_eq_of_le (by omega) (by omega)
          have old : gq_ge val (gz_sn j h0 L L) (gz_sn k h0 L L) → gw_E V 5 (2, [(0, .ref 81), (1, .int (Int32.ofNat (k + 1)))], [], gS n I_t J, 0, 0) (cq_best n I J N h0 L bc) := fun hh => goon I_t t2 bq b59 b6 ⟨j, by omega, by rw [b81]; exact e1, by rw [b81]; exact e2, fun i hi => by
            by_cases q : i = k
            · rw [q]; exact hh
            · exact e3 i (by omega)⟩
          have new : ∀ I3 I4, gq_ge val (gz_sn k h0 L L) (gz_sn j h0 L L) → I3 = gw_u I_t 81 1 (Int32.ofNat (gz_sn k h0 L L)) → I4 = gw_u I3 81 2 (I3 78 L) → gw_E V 5 (2, [(0, .ref 81), (1, .int (Int32.ofNat (k + 1)))], [], gS n I4 J, 0, 0) (cq_best n I J N h0 L bc) := fun I3 I4 hh q1 q2 => upd2 I_t I3 I4 t2 bq b59 b6 q1 (by rw [q2]; congr 1; rw [q1, gw_u_o (by omega)]; exact hv) (fun i hi => gq_ge_tr hh (e3 i hi))
          refine gs_iload_n (pc := 48) (gd gk_5 26 rfl) rfl ?_
          refine gs_if_gt (pc := 49) (gd gk_5 27 rfl) (fun c49 => ?_) (fun c49 => ?_)
          · refine gs_aload_n (pc := 67) (gd gk_5 35 rfl) rfl ?_
            refine gs_iload_n (pc := 68) (gd gk_5 36 rfl) rfl ?_
            refine gs_putI (pc := 69) (gd gk_5 37 rfl) rfl rfl rfl rfl (fun I_3 hI_3 => ?_)
            refine gs_aload_n (pc := 72) (gd gk_5 38 rfl) rfl ?_
            refine gs_aload_n (pc := 73) (gd gk_5 39 rfl) rfl ?_
            refine gs_getR (r := 57) (pc := 74) (gd gk_5 40 rfl) rfl rfl rfl (by decide) ?_
            refine gs_callV (as := []) (pc := 77) (gd gk_5 41 rfl) (by decide) rfl (by decide) rfl rfl (Nat.le_of_ble_eq_true rfl) gq_5_58 (Nat.le_of_ble_eq_true rfl) (c_comes (L := L) (by rw [hI_3, gw_u_o (by omega)]; exact t2.2.2.1) (by omega)) (fun r_77 w_77 q_77 => ?_)
            obtain ⟨rfl, rfl⟩ := q_77
            refine gs_putI (pc := 80) (gd gk_5 42 rfl) rfl rfl rfl rfl (fun I_4 hI_4 => ?_)
            refine gs_iinc (ls2 := fun v => [(0, .ref (81)), (1, .int (v)), (2, .int (Int32.ofNat (gz_sn k h0 L L))), (3, .int (v3_1))]) (pc := 83) (gd gk_5 43 rfl) rfl (by rw [gL_5]; decide) (fun _ => rfl) (1) rfl (fun v1_2 hv1_2 => ?_)
            obtain rfl : v1_2 = Int32.ofNat (k + 1) := hv1_2.trans (by first | rfl | (simp only [Int32.ofNat_add, Int32.ofNat_mul]; rfl) | (simp only [Int32.ofNat_add, Int32.ofNat_mul]))
            refine gs_goto (pc := 86) (gd gk_5 44 rfl) ?_
            -- end 3: stop, pc 2, locals [(0, .ref (81)), (1, .int (Int32.ofNat (k + 1))), (2, .int (Int32.ofNat (gz_sn k h0 L L))), (3, .int (v3_1))]
            refine gs_drop [0, 1] rfl (new _ _ ?_ hI_3 hI_4)
            have := Int32.lt_iff_toInt_lt.mp c49
            exact .inl (by have z : (0 : Int32).toInt = 0 := rfl; omega)
          · refine gs_iload_n (pc := 52) (gd gk_5 28 rfl) rfl ?_
            refine gs_if_ne (pc := 53) (gd gk_5 29 rfl) (fun c53 => ?_) (fun c53 => ?_)
            · refine gs_iinc (ls2 := fun v => [(0, .ref (81)), (1, .int (v)), (2, .int (Int32.ofNat (gz_sn k h0 L L))), (3, .int (v3_1))]) (pc := 83) (gd gk_5 43 rfl) rfl (by rw [gL_5]; decide) (fun _ => rfl) (1) rfl (fun v1_3 hv1_3 => ?_)
              obtain rfl : v1_3 = Int32.ofNat (k + 1) := hv1_3.trans (by first | rfl | (simp only [Int32.ofNat_add, Int32.ofNat_mul]; rfl) | (simp only [Int32.ofNat_add, Int32.ofNat_mul]))
              refine gs_goto (pc := 86) (gd gk_5 44 rfl) ?_
              -- end 4: stop, pc 2, locals [(0, .ref (81)), (1, .int (Int32.ofNat (k + 1))), (2, .int (Int32.ofNat (gz_sn k h0 L L))), (3, .int (v3_1))]
              refine gs_drop [0, 1] rfl (old ?_)
              have := Int32.le_iff_toInt_le.mp (Int32.not_lt.mp c49)
              have : v3_1.toInt ≠ 0 := fun q => c53 (Int32.toInt_inj.mp q)
              exact .inl (by have z : (0 : Int32).toInt = 0 := rfl; omega)
            · refine gs_iload_n (pc := 56) (gd gk_5 30 rfl) rfl ?_
              refine gs_aload_n (pc := 57) (gd gk_5 31 rfl) rfl ?_
              refine gs_getI (pc := 58) (gd gk_5 32 rfl) rfl rfl ?_
              refine gs_as ((Int32.ofNat (gz_sn j h0 L L))) ((by rw [b81]; exact e1)) ?_
              refine gs_callS (as := [.int (Int32.ofNat (gz_sn k h0 L L)), .int ((Int32.ofNat (gz_sn j h0 L L)))]) (pc := 61) (gd gk_5 33 rfl) (by decide) rfl rfl (Nat.le_of_ble_eq_true rfl) gq_5_7 (Nat.le_of_ble_eq_true rfl) (c_small (gz_sn k h0 L L) (gz_sn j h0 L L) hsn.2 hjs) (fun r_61 w_61 q_61 => ?_)
              obtain ⟨rfl, rfl⟩ := q_61
              refine gs_if_eq (pc := 64) (gd gk_5 34 rfl) (fun c64 => ?_) (fun c64 => ?_)
              · refine gs_iinc (ls2 := fun v => [(0, .ref (81)), (1, .int (v)), (2, .int (Int32.ofNat (gz_sn k h0 L L))), (3, .int (v3_1))]) (pc := 83) (gd gk_5 43 rfl) rfl (by rw [gL_5]; decide) (fun _ => rfl) (1) rfl (fun v1_4 hv1_4 => ?_)
                obtain rfl : v1_4 = Int32.ofNat (k + 1) := hv1_4.trans (by first | rfl | (simp only [Int32.ofNat_add, Int32.ofNat_mul]; rfl) | (simp only [Int32.ofNat_add, Int32.ofNat_mul]))
                refine gs_goto (pc := 86) (gd gk_5 44 rfl) ?_
                -- end 5: stop, pc 2, locals [(0, .ref (81)), (1, .int (Int32.ofNat (k + 1))), (2, .int (Int32.ofNat (gz_sn k h0 L L))), (3, .int (v3_1))]
                refine gs_drop [0, 1] rfl (old ?_)
                have hz : v3_1.toInt = 0 := by rw [c53]; rfl
                have hb := gz_b_eq.mp c64
                simp only [gz_sm, decide_eq_false_iff_not] at hb
                exact .inr (by omega)
              · refine gs_aload_n (pc := 67) (gd gk_5 35 rfl) rfl ?_
                refine gs_iload_n (pc := 68) (gd gk_5 36 rfl) rfl ?_
                refine gs_putI (pc := 69) (gd gk_5 37 rfl) rfl rfl rfl rfl (fun I_5 hI_5 => ?_)
                refine gs_aload_n (pc := 72) (gd gk_5 38 rfl) rfl ?_
                refine gs_aload_n (pc := 73) (gd gk_5 39 rfl) rfl ?_
                refine gs_getR (r := 57) (pc := 74) (gd gk_5 40 rfl) rfl rfl rfl (by decide) ?_
                refine gs_callV (as := []) (pc := 77) (gd gk_5 41 rfl) (by decide) rfl (by decide) rfl rfl (Nat.le_of_ble_eq_true rfl) gq_5_58 (Nat.le_of_ble_eq_true rfl) (c_comes (L := L) (by rw [hI_5, gw_u_o (by omega)]; exact t2.2.2.1) (by omega)) (fun r_77 w_77 q_77 => ?_)
                obtain ⟨rfl, rfl⟩ := q_77
                refine gs_putI (pc := 80) (gd gk_5 42 rfl) rfl rfl rfl rfl (fun I_6 hI_6 => ?_)
                refine gs_iinc (ls2 := fun v => [(0, .ref (81)), (1, .int (v)), (2, .int (Int32.ofNat (gz_sn k h0 L L))), (3, .int (v3_1))]) (pc := 83) (gd gk_5 43 rfl) rfl (by rw [gL_5]; decide) (fun _ => rfl) (1) rfl (fun v1_5 hv1_5 => ?_)
                obtain rfl : v1_5 = Int32.ofNat (k + 1) := hv1_5.trans (by first | rfl | (simp only [Int32.ofNat_add, Int32.ofNat_mul]; rfl) | (simp only [Int32.ofNat_add, Int32.ofNat_mul]))
                refine gs_goto (pc := 86) (gd gk_5 44 rfl) ?_
                -- end 6: stop, pc 2, locals [(0, .ref (81)), (1, .int (Int32.ofNat (k + 1))), (2, .int (Int32.ofNat (gz_sn k h0 L L))), (3, .int (v3_1))]
                refine gs_drop [0, 1] rfl (new _ _ ?_ hI_5 hI_6)
                have hz : v3_1.toInt = 0 := by rw [c53]; rfl
                have hb := gz_b_ne.mp c64
                simp only [gz_sm, decide_eq_true_eq] at hb
                exact .inr (by omega)
  refine gs_iconst (pc := 0) (gd gk_5 0 rfl) (0) rfl ?_
  refine gs_istore_n (ls2 := fun v => [(0, .ref (81)), (1, .int (v))]) (pc := 1) (gd gk_5 1 rfl) (by rw [gL_5]; decide) (fun _ => rfl) (fun v1_1 hv1_1 => ?_)
  obtain rfl : v1_1 = Int32.ofNat 0 := hv1_1.trans (by first | rfl | (simp only [Int32.ofNat_add, Int32.ofNat_mul]; rfl) | (simp only [Int32.ofNat_add, Int32.ofNat_mul]))
  -- end 1: stop, pc 2, locals [(0, .ref (81)), (1, .int (Int32.ofNat 0))]
  exact lp (2 ^ L) 0 (by omega) I hon ⟨fun _ _ _ _ => rfl, rfl, rfl, rfl⟩ rfl rfl (fun h => absurd h (Nat.lt_irrefl 0))
