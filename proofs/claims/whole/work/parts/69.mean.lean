/-! ===== mean, fair: the class ===== -/
theorem zsubn {a b : Nat} (h : b ≤ a) : Int32.ofNat a - Int32.ofNat b = Int32.ofNat (a - b) := by
  obtain ⟨c, rfl⟩ : ∃ c, a = b + c := ⟨a - b, by omega⟩
  rw [show b + c - b = c by omega, Int32.ofNat_add]; grind
theorem z64 {b : Nat} (h : b < 2 ^ 31) : (Int32.ofNat b).toInt64 = Int64.ofInt (b : Int) := by
  rw [← Int64.ofInt_int32ToInt, Int32.toInt_ofNat_of_lt h]
theorem gq_pd_b {σ : Nat → Nat → Int32} {W N : Nat} (hok : gq_ok σ W N) (wd : Nat → Int32) (pl : Nat → Bool) (bc : Nat) (ch : Int32) (s0 : Nat → Int32) {m : Nat} (hm : m < N) : ∀ {g : Nat}, g ≤ 8 → -(9 * (g : Int)) ≤ (gq_pd σ wd pl bc ch s0 m g).toInt ∧ (gq_pd σ wd pl bc ch s0 m g).toInt ≤ 9 * (g : Int)
  | 0, _ => by show _ ≤ (0 : Int32).toInt ∧ (0 : Int32).toInt ≤ _; have : (0 : Int32).toInt = 0 := rfl; omega
  | g + 1, hg => by
    obtain ⟨-, -, -, h6, -, -, hc, -, hns⟩ := id hok
    have ih := gq_pd_b hok wd pl bc ch s0 hm (g := g) (by omega)
    have hd := gq_due_b (h := gq_has σ (gq_sq σ wd pl bc ch s0 (g + 1)) m) (e := decide (wd g = 1)) (hns m hm).2.2.1
    unfold gq_pd
    rw [zadd_b ih hd (by omega) (by omega)]
    omega
/-- what comes by a plan, some winds being turned; or what a nose pays -/
def gy_u (σ : Nat → Nat → Int32) (N h0 L bc : Nat) (ch : Int32) (s0 : Nat → Int32) (pl : Int32) : Option Nat → (Nat → Int32) → Int32
  | none, wd => gq_cm σ wd (gq_p0 pl h0) bc ch s0 (fun _ => true) N L
  | some m, wd => gq_pd σ wd (gq_p0 pl h0) bc ch s0 m L
abbrev gy_v (σ : Nat → Nat → Int32) (N h0 L bc : Nat) (ch : Int32) (s0 : Nat → Int32) (pl : Int32) (o : Option Nat) (q : Nat) : Int32 := gy_u σ N h0 L bc ch s0 pl o (fun j => gq_wd σ (Int32.ofNat q) (h0 + j))
abbrev gy_vi (σ : Nat → Nat → Int32) (N h0 L bc : Nat) (ch : Int32) (s0 : Nat → Int32) (pl : Int32) (o : Option Nat) : Nat → Int := fun q => (gy_v σ N h0 L bc ch s0 pl o q).toInt
def gy_on (o : Option Nat) (N : Nat) : Prop := ∀ m, o = some m → m < N
theorem gy_v_b {σ : Nat → Nat → Int32} {W N h0 L bc : Nat} {ch : Int32} {s0 : Nat → Int32} {pl : Int32} {o : Option Nat} (hok : gq_ok σ W N) (hL : L ≤ 8) (ho : gy_on o N) (q : Nat) : -504 ≤ gy_vi σ N h0 L bc ch s0 pl o q ∧ gy_vi σ N h0 L bc ch s0 pl o q ≤ 504 := by
  cases o with
  | none =>
    have := gq_cm_b hok (fun j => gq_wd σ (Int32.ofNat q) (h0 + j)) (gq_p0 pl h0) bc ch s0 (fun _ => true) (g := L) hL
    show -504 ≤ (gq_cm _ _ _ _ _ _ _ _ _).toInt ∧ (gq_cm _ _ _ _ _ _ _ _ _).toInt ≤ 504
    omega
  | some m =>
    have := gq_pd_b hok (fun j => gq_wd σ (Int32.ofNat q) (h0 + j)) (gq_p0 pl h0) bc ch s0 (ho m rfl) (g := L) hL
    show -504 ≤ (gq_pd _ _ _ _ _ _ _ _).toInt ∧ (gq_pd _ _ _ _ _ _ _ _).toInt ≤ 504
    omega
section
variable {V : gw_V} {n W N h0 L bc : Nat} {I : Nat → Nat → Int32} {J : Nat → Nat → Int64}
theorem c_power (b e : Nat) (hb : b ≤ 10) (he : e ≤ 8) : gw_E V 103 (0, [(0, .int (Int32.ofNat b)), (1, .int (Int32.ofNat e))], [], gS n I J, 0, 0) (fun v w' => v = some (.long (Int64.ofInt ((b : Int) ^ e))) ∧ w' = gS n I J) := by
  have lp : ∀ (m k : Nat), m + k = e → ∀ x, x = Int64.ofInt ((b : Int) ^ k) → gw_E V 103 (5, [(0, .int (Int32.ofNat b)), (1, .int (Int32.ofNat e)), (2, .long x), (4, .int (Int32.ofNat k))], [], gS n I J, 0, 0) (fun v w' => v = some (.long (Int64.ofInt ((b : Int) ^ e))) ∧ w' = gS n I J) := by
    intro m
    induction m with
    | zero =>
      intro k hk x hx
      obtain rfl : k = e := by omega
      refine gs_iload (pc := 5) (gd gk_103 4 rfl) rfl ?_
      refine gs_iload_n (pc := 7) (gd gk_103 5 rfl) rfl ?_
      refine gs_icmp_ge (pc := 8) (gd gk_103 6 rfl) (fun c8 => ?_) (fun c8 => ?_)
      · replace c8 : k ≤ k := (zle (k := k) (m := k) (by omega) (by omega)).mp c8
        refine gs_lload_n (pc := 22) (gd gk_103 14 rfl) rfl ?_
        -- end 1: lreturn x, pc 23, locals [(0, .int (Int32.ofNat b)), (1, .int (Int32.ofNat k)), (2, .long (x)), (4, .int (Int32.ofNat k))]
        exact gs_lret (pc := 23) (gd gk_103 15 rfl) rfl (Nat.zero_le _) (Nat.zero_le _) (⟨by rw [hx], rfl⟩)
      · replace c8 : ¬ (k ≤ k) := fun q9 => c8 ((zle (k := k) (m := k) (by omega) (by omega)).mpr q9)
        -- end 2: stop, pc 11, locals [(0, .int (Int32.ofNat b)), (1, .int (Int32.ofNat k)), (2, .long (x)), (4, .int (Int32.ofNat k))]
        exact absurd (Nat.le_refl _) c8
    | succ m ih =>
      intro k hk x hx
      refine gs_iload (pc := 5) (gd gk_103 4 rfl) rfl ?_
      refine gs_iload_n (pc := 7) (gd gk_103 5 rfl) rfl ?_
      refine gs_icmp_ge (pc := 8) (gd gk_103 6 rfl) (fun c8 => ?_) (fun c8 => ?_)
      · replace c8 : e ≤ k := (zle (k := e) (m := k) (by omega) (by omega)).mp c8
        refine gs_lload_n (pc := 22) (gd gk_103 14 rfl) rfl ?_
        -- end 1: lreturn x, pc 23, locals [(0, .int (Int32.ofNat b)), (1, .int (Int32.ofNat e)), (2, .long (x)), (4, .int (Int32.ofNat k))]
        exact absurd c8 (by omega)
      · replace c8 : ¬ (e ≤ k) := fun q9 => c8 ((zle (k := e) (m := k) (by omega) (by omega)).mpr q9)
        refine gs_lload_n (pc := 11) (gd gk_103 7 rfl) rfl ?_
        refine gs_iload_n (pc := 12) (gd gk_103 8 rfl) rfl ?_
        refine gs_i2l (pc := 13) (gd gk_103 9 rfl) ?_
        refine gs_lmul (pc := 14) (gd gk_103 10 rfl) ?_
        refine gs_lstore_n (ls2 := fun v => [(0, .int (Int32.ofNat b)), (1, .int (Int32.ofNat e)), (2, .long (v)), (4, .int (Int32.ofNat k))]) (pc := 15) (gd gk_103 11 rfl) (by rw [gL_103]; decide) (fun _ => rfl) (fun u2_1 hu2_1 => ?_)
        refine gs_iinc (ls2 := fun v => [(0, .int (Int32.ofNat b)), (1, .int (Int32.ofNat e)), (2, .long (u2_1)), (4, .int (v))]) (pc := 16) (gd gk_103 12 rfl) rfl (by rw [gL_103]; decide) (fun _ => rfl) (1) rfl (fun v4_1 hv4_1 => ?_)
        obtain rfl : v4_1 = Int32.ofNat (k + 1) := hv4_1.trans (by first | rfl | (simp only [Int32.ofNat_add, Int32.ofNat_mul]; rfl) | (simp only [Int32.ofNat_add, Int32.ofNat_mul]))
        refine gs_goto (pc := 19) (gd gk_103 13 rfl) ?_
        -- end 2: stop, pc 5, locals [(0, .int (Int32.ofNat b)), (1, .int (Int32.ofNat e)), (2, .long (u2_1)), (4, .int (Int32.ofNat (k + 1)))]
        exact ih (k + 1) (by omega) _ (by rw [hu2_1, hx, z64 (by omega), ← Int64.ofInt_mul, Int.pow_succ])
  refine gs_lconst (pc := 0) (gd gk_103 0 rfl) (1) rfl ?_
  refine gs_lstore_n (ls2 := fun v => [(0, .int (Int32.ofNat b)), (1, .int (Int32.ofNat e)), (2, .long (v))]) (pc := 1) (gd gk_103 1 rfl) (by rw [gL_103]; decide) (fun _ => rfl) (fun u2_1 hu2_1 => ?_)
  refine gs_iconst (pc := 2) (gd gk_103 2 rfl) (0) rfl ?_
  refine gs_istore (ls2 := fun v => [(0, .int (Int32.ofNat b)), (1, .int (Int32.ofNat e)), (2, .long (u2_1)), (4, .int (v))]) (pc := 3) (gd gk_103 3 rfl) (by rw [gL_103]; decide) (fun _ => rfl) (fun v4_1 hv4_1 => ?_)
  obtain rfl : v4_1 = Int32.ofNat 0 := hv4_1.trans (by first | rfl | (simp only [Int32.ofNat_add, Int32.ofNat_mul]; rfl) | (simp only [Int32.ofNat_add, Int32.ofNat_mul]))
  -- end 1: stop, pc 5, locals [(0, .int (Int32.ofNat b)), (1, .int (Int32.ofNat e)), (2, .long (u2_1)), (4, .int (Int32.ofNat 0))]
  exact lp e 0 (by omega) _ (by rw [hu2_1]; rfl)
abbrev cq_ma (n : Nat) (I : Nat → Nat → Int32) (J : Nat → Nat → Int64) (W N h0 L bc : Nat) (o : Option Nat) (pl : Int32) (x : Nat) : Option Value → gw_W → Prop := fun v w' => v = some (.long (Int64.ofInt (gy_T (gy_c h0) x (10 - x) W (gy_vi (gz_S I) N h0 L bc (I 12 1) (I 13) pl o)))) ∧ ∃ I2, w' = gS n I2 J ∧ gq_qf I I2
theorem c_meanAbove (o : Option Nat) (ns pl : Int32) (x : Nat) (hx : x ≤ 10) (ho : (o = none ∧ ns = -1) ∨ ∃ m, o = some m ∧ m < N ∧ ns = Int32.ofNat m) (hn : gq_now I W N h0 L bc) : gw_E V 102 (0, [(0, .ref 3), (1, .int ns), (2, .int pl), (3, .int (Int32.ofNat x))], [], gS n I J, 0, 0) (cq_ma n I J W N h0 L bc o pl x) := by
  obtain ⟨hok, hh, hW, hbc, hb9, h78, h79, h69⟩ := id hn
  have hW8 : W ≤ 8 := hok.2.1
  have hN6 : N ≤ 6 := hok.2.2.2.1
  have hpw : 2 ^ L ≤ 256 := Nat.le_trans (Nat.pow_le_pow_right (by omega) (show L ≤ 8 by omega)) (by decide)
  generalize hv : gy_vi (gz_S I) N h0 L bc (I 12 1) (I 13) pl o = v
  have h10 : (10 : Int32) - Int32.ofNat x = Int32.ofNat (10 - x) := zsubn (a := 10) hx
  have lp : ∀ (m k : Nat), m + k = 2 ^ L → ∀ I1 ab, gq_on I1 W N h0 L bc → gq_qf I I1 → (∀ c, c < 10 → I1 59 c = I 13 c) → I1 57 6 = I 12 1 → ab = Int64.ofInt (gy_S (fun j => (x : Int) ^ gz_pc (gz_sn j h0 L L) * (10 - (x : Int)) ^ (L - gz_pc (gz_sn j h0 L L)) * v (gz_sn j h0 L L)) k) → gw_E V 102 (24, [(0, .ref 3), (1, .int ns), (2, .int pl), (3, .int (Int32.ofNat x)), (4, .long ab), (6, .int (Int32.ofNat k))], [], gS n I1 J, 0, 0) (cq_ma n I J W N h0 L bc o pl x) := by
    intro m
    induction m with
    | zero =>
      intro k hk I1 ab g1 g2 g3 g4 g5
      obtain rfl : k = 2 ^ L := by omega
      refine gs_iload (pc := 24) (gd gk_102 12 rfl) rfl ?_
      refine gs_aload_n (pc := 26) (gd gk_102 13 rfl) rfl ?_
      refine gs_getR (r := 57) (pc := 27) (gd gk_102 14 rfl) rfl rfl rfl (by decide) ?_
      refine gs_callV (as := []) (pc := 30) (gd gk_102 15 rfl) (by decide) rfl (by decide) rfl rfl (Nat.le_of_ble_eq_true rfl) gq_102_51 (Nat.le_of_ble_eq_true rfl) (c_sets (L := L) g1.2.2.1 (by omega)) (fun r_30 w_30 q_30 => ?_)
      obtain ⟨rfl, rfl⟩ := q_30
      refine gs_icmp_ge (pc := 33) (gd gk_102 16 rfl) (fun c33 => ?_) (fun c33 => ?_)
      · replace c33 : (2 ^ L) ≤ (2 ^ L) := (zle (k := (2 ^ L)) (m := (2 ^ L)) (by omega) (by omega)).mp c33
        refine gs_lload (pc := 128) (gd gk_102 63 rfl) rfl ?_
        -- end 1: lreturn ab, pc 130, locals [(0, .ref (3)), (1, .int (ns)), (2, .int (pl)), (3, .int (Int32.ofNat x)), (4, .long (ab)), (6, .int (Int32.ofNat (2 ^ L)))]
        exact gs_lret (pc := 130) (gd gk_102 64 rfl) rfl (Nat.zero_le _) (Nat.zero_le _) (⟨by rw [g5, gy_sum (by omega), hv, hW], I1, rfl, g2⟩)
      · replace c33 : ¬ ((2 ^ L) ≤ (2 ^ L)) := fun q9 => c33 ((zle (k := (2 ^ L)) (m := (2 ^ L)) (by omega) (by omega)).mpr q9)
        -- end 2: stop, pc 36, locals [(0, .ref (3)), (1, .int (ns)), (2, .int (pl)), (3, .int (Int32.ofNat x)), (4, .long (ab)), (6, .int (Int32.ofNat (2 ^ L)))]
        exact absurd (Nat.le_refl _) c33
    | succ m ih =>
      intro k hk I1 ab g1 g2 g3 g4 g5
      have hS1 : gz_S I1 = gz_S I := gq_qf_S g2
      have hkL : k < 2 ^ L := by omega
      have hsn := gz_se_sn h0 (by omega) L (by omega) (by omega) k hkL
      have hsu := gz_sn_su h0 (by omega) L (by omega) (by omega) k hkL
      have hpc : gz_pc (gz_sn k h0 L L) ≤ L := by
        have := gy_c_io0 h0 (by omega) L (by omega) (by omega) _ hsu.2
        simp [hsu.1] at this
        exact this.2
      have hLt : Int32.ofNat L - Int32.ofNat (gz_pc (gz_sn k h0 L L)) = Int32.ofNat (L - gz_pc (gz_sn k h0 L L)) := zsubn hpc
      have tail : ∀ I2 (z : Int32) (ch : Int64), gq_on I2 W N h0 L bc → gq_qf I I2 → (∀ c, c < 10 → I2 59 c = I 13 c) → I2 57 6 = I 12 1 → z.toInt = v (gz_sn k h0 L L) → ch = Int64.ofInt ((x : Int) ^ gz_pc (gz_sn k h0 L L)) * Int64.ofInt (((10 - x : Nat) : Int) ^ (L - gz_pc (gz_sn k h0 L L))) → gw_E V 102 (117, [(0, .ref 3), (1, .int ns), (2, .int pl), (3, .int (Int32.ofNat x)), (4, .long ab), (6, .int (Int32.ofNat k)), (7, .int (Int32.ofNat (gz_sn k h0 L L))), (8, .int (Int32.ofNat (gz_pc (gz_sn k h0 L L)))), (9, .long ch)], [.int z, .long ch, .long ab], gS n I2 J, 0, 0) (cq_ma n I J W N h0 L bc o pl x) := by
        intro I2 z ch a1 a2 a3 a4 a5 a6
        refine gs_i2l (pc := 117) (gd gk_102 57 rfl) ?_
        refine gs_lmul (pc := 118) (gd gk_102 58 rfl) ?_
        refine gs_ladd (pc := 119) (gd gk_102 59 rfl) ?_
        refine gs_lstore (ls2 := fun v => [(0, .ref (3)), (1, .int (ns)), (2, .int (pl)), (3, .int (Int32.ofNat x)), (4, .long (v)), (6, .int (Int32.ofNat k)), (7, .int (Int32.ofNat (gz_sn k h0 L L))), (8, .int (Int32.ofNat (gz_pc (gz_sn k h0 L L)))), (9, .long (ch))]) (pc := 120) (gd gk_102 60 rfl) (by rw [gL_102]; decide) (fun _ => rfl) (fun u4_1 hu4_1 => ?_)
        refine gs_iinc (ls2 := fun v => [(0, .ref (3)), (1, .int (ns)), (2, .int (pl)), (3, .int (Int32.ofNat x)), (4, .long (u4_1)), (6, .int (v)), (7, .int (Int32.ofNat (gz_sn k h0 L L))), (8, .int (Int32.ofNat (gz_pc (gz_sn k h0 L L)))), (9, .long (ch))]) (pc := 122) (gd gk_102 61 rfl) rfl (by rw [gL_102]; decide) (fun _ => rfl) (1) rfl (fun v6_1 hv6_1 => ?_)
        obtain rfl : v6_1 = Int32.ofNat (k + 1) := hv6_1.trans (by first | rfl | (simp only [Int32.ofNat_add, Int32.ofNat_mul]; rfl) | (simp only [Int32.ofNat_add, Int32.ofNat_mul]))
        refine gs_goto (pc := 125) (gd gk_102 62 rfl) ?_
        -- end 1: stop, pc 24, locals [(0, .ref (3)), (1, .int (ns)), (2, .int (pl)), (3, .int (Int32.ofNat x)), (4, .long (u4_1)), (6, .int (Int32.ofNat (k + 1))), (7, .int (Int32.ofNat (gz_sn k h0 L L))), (8, .int (Int32.ofNat (gz_pc (gz_sn k h0 L L)))), (9, .long (ch))]
        refine gs_drop [0, 1, 2, 3, 4, 5] rfl (ih (k + 1) (by omega) I2 _ a1 a2 a3 a4 ?_)
        rw [hu4_1, g5, a6, ← Int64.ofInt_int32ToInt, a5, ← Int64.ofInt_mul, ← Int64.ofInt_mul, ← Int64.ofInt_add, show ((10 - x : Nat) : Int) = 10 - (x : Int) by omega]
        rfl
      refine gs_iload (pc := 24) (gd gk_102 12 rfl) rfl ?_
      refine gs_aload_n (pc := 26) (gd gk_102 13 rfl) rfl ?_
      refine gs_getR (r := 57) (pc := 27) (gd gk_102 14 rfl) rfl rfl rfl (by decide) ?_
      refine gs_callV (as := []) (pc := 30) (gd gk_102 15 rfl) (by decide) rfl (by decide) rfl rfl (Nat.le_of_ble_eq_true rfl) gq_102_51 (Nat.le_of_ble_eq_true rfl) (c_sets (L := L) g1.2.2.1 (by omega)) (fun r_30 w_30 q_30 => ?_)
      obtain ⟨rfl, rfl⟩ := q_30
      refine gs_icmp_ge (pc := 33) (gd gk_102 16 rfl) (fun c33 => ?_) (fun c33 => ?_)
      · replace c33 : (2 ^ L) ≤ k := (zle (k := (2 ^ L)) (m := k) (by omega) (by omega)).mp c33
        refine gs_lload (pc := 128) (gd gk_102 63 rfl) rfl ?_
        -- end 1: lreturn ab, pc 130, locals [(0, .ref (3)), (1, .int (ns)), (2, .int (pl)), (3, .int (Int32.ofNat x)), (4, .long (ab)), (6, .int (Int32.ofNat k))]
        exact absurd c33 (by omega)
      · replace c33 : ¬ ((2 ^ L) ≤ k) := fun q9 => c33 ((zle (k := (2 ^ L)) (m := k) (by omega) (by omega)).mpr q9)
        refine gs_aload_n (pc := 36) (gd gk_102 17 rfl) rfl ?_
        refine gs_getR (r := 57) (pc := 37) (gd gk_102 18 rfl) rfl rfl rfl (by decide) ?_
        refine gs_iload (pc := 40) (gd gk_102 19 rfl) rfl ?_
        refine gs_callV (as := [.int (Int32.ofNat k)]) (pc := 42) (gd gk_102 20 rfl) (by decide) rfl (by decide) rfl rfl (Nat.le_of_ble_eq_true rfl) gq_102_52 (Nat.le_of_ble_eq_true rfl) (c_set k hkL g1.2.1 g1.2.2.1 (by omega)) (fun r_42 w_42 q_42 => ?_)
        obtain ⟨rfl, rfl⟩ := q_42
        refine gs_istore (ls2 := fun v => [(0, .ref (3)), (1, .int (ns)), (2, .int (pl)), (3, .int (Int32.ofNat x)), (4, .long (ab)), (6, .int (Int32.ofNat k)), (7, .int (v))]) (pc := 45) (gd gk_102 21 rfl) (by rw [gL_102]; decide) (fun _ => rfl) (fun v7_1 hv7_1 => ?_)
        obtain rfl : v7_1 = Int32.ofNat (gz_sn k h0 L L) := hv7_1.trans (by first | rfl | (simp only [Int32.ofNat_add, Int32.ofNat_mul]; rfl) | (simp only [Int32.ofNat_add, Int32.ofNat_mul]))
        refine gs_aload_n (pc := 47) (gd gk_102 22 rfl) rfl ?_
        refine gs_getR (r := 57) (pc := 48) (gd gk_102 23 rfl) rfl rfl rfl (by decide) ?_
        refine gs_iload_n (pc := 51) (gd gk_102 24 rfl) rfl ?_
        refine gs_iload (pc := 52) (gd gk_102 25 rfl) rfl ?_
        refine gs_callV (as := [.int (pl), .int (Int32.ofNat (gz_sn k h0 L L))]) (pc := 54) (gd gk_102 26 rfl) (by decide) rfl (by decide) rfl rfl (Nat.le_of_ble_eq_true rfl) gq_102_53 (Nat.le_of_ble_eq_true rfl) (c_take2 pl (Int32.ofNat (gz_sn k h0 L L)) g1) (fun r_54 w_54 q_54 => ?_)
        obtain ⟨rfl, I_t, rfl, t1, t2, t3⟩ := q_54
        have hS2 : gz_S I_t = gz_S I := by rw [gq_wf_S t1]; exact hS1
        have b59 : ∀ c, c < 10 → I_t 59 c = I 13 c := fun c hc => by rw [t1.1 59 (by omega) (by omega) (by omega)]; exact g3 c hc
        have b6 : I_t 57 6 = I 12 1 := by rw [t1.2.2 6 (by omega) (by omega) (by omega)]; exact g4
        have bq : gq_qf I I_t := gq_qf_tr g2 (gq_qf_w t1)
        have tr := gq_res_c (s1 := I1 59) (s2 := I 13) g3 (gq_ok_n (by rw [hS1]; exact hok)) t3
        rw [hS1, g4] at tr
        refine gs_iload (pc := 57) (gd gk_102 27 rfl) rfl ?_
        refine gs_callS (as := [.int (Int32.ofNat (gz_sn k h0 L L))]) (pc := 59) (gd gk_102 28 rfl) (by decide) rfl rfl (Nat.le_of_ble_eq_true rfl) gq_102_163 (Nat.le_of_ble_eq_true rfl) (c_bits (gz_sn k h0 L L) hsn.2) (fun r_59 w_59 q_59 => ?_)
        obtain ⟨rfl, rfl⟩ := q_59
        refine gs_istore (ls2 := fun v => [(0, .ref (3)), (1, .int (ns)), (2, .int (pl)), (3, .int (Int32.ofNat x)), (4, .long (ab)), (6, .int (Int32.ofNat k)), (7, .int (Int32.ofNat (gz_sn k h0 L L))), (8, .int (v))]) (pc := 62) (gd gk_102 29 rfl) (by rw [gL_102]; decide) (fun _ => rfl) (fun v8_1 hv8_1 => ?_)
        obtain rfl : v8_1 = Int32.ofNat (gz_pc (gz_sn k h0 L L)) := hv8_1.trans (by first | rfl | (simp only [Int32.ofNat_add, Int32.ofNat_mul]; rfl) | (simp only [Int32.ofNat_add, Int32.ofNat_mul]))
        refine gs_iload_n (pc := 64) (gd gk_102 30 rfl) rfl ?_
        refine gs_iload (pc := 65) (gd gk_102 31 rfl) rfl ?_
        refine gs_callS (as := [.int (Int32.ofNat x), .int (Int32.ofNat (gz_pc (gz_sn k h0 L L)))]) (pc := 67) (gd gk_102 32 rfl) (by decide) rfl rfl (Nat.le_of_ble_eq_true rfl) gq_102_103 (Nat.le_of_ble_eq_true rfl) (c_power x (gz_pc (gz_sn k h0 L L)) hx (gz_pc_le _)) (fun r_67 w_67 q_67 => ?_)
        obtain ⟨rfl, rfl⟩ := q_67
        refine gs_bipush (pc := 70) (gd gk_102 33 rfl) (10) rfl ?_
        refine gs_iload_n (pc := 72) (gd gk_102 34 rfl) rfl ?_
        refine gs_isub (pc := 73) (gd gk_102 35 rfl) ?_
        refine gs_aload_n (pc := 74) (gd gk_102 36 rfl) rfl ?_
        refine gs_getR (r := 57) (pc := 75) (gd gk_102 37 rfl) rfl rfl rfl (by decide) ?_
        refine gs_getI (pc := 78) (gd gk_102 38 rfl) rfl rfl ?_
        refine gs_as (Int32.ofNat L) (t2.2.2.1) ?_
        refine gs_iload (pc := 81) (gd gk_102 39 rfl) rfl ?_
        refine gs_isub (pc := 83) (gd gk_102 40 rfl) ?_
        refine gs_callS (as := [.int ((10 - Int32.ofNat x)), .int ((Int32.ofNat L - Int32.ofNat (gz_pc (gz_sn k h0 L L))))]) (pc := 84) (gd gk_102 41 rfl) (by decide) rfl rfl (Nat.le_of_ble_eq_true rfl) gq_102_103 (Nat.le_of_ble_eq_true rfl) ((by rw [h10, hLt]; exact c_power (10 - x) (L - gz_pc (gz_sn k h0 L L)) (by omega) (by omega))) (fun r_84 w_84 q_84 => ?_)
        obtain ⟨rfl, rfl⟩ := q_84
        refine gs_lmul (pc := 87) (gd gk_102 42 rfl) ?_
        refine gs_lstore (ls2 := fun v => [(0, .ref (3)), (1, .int (ns)), (2, .int (pl)), (3, .int (Int32.ofNat x)), (4, .long (ab)), (6, .int (Int32.ofNat k)), (7, .int (Int32.ofNat (gz_sn k h0 L L))), (8, .int (Int32.ofNat (gz_pc (gz_sn k h0 L L)))), (9, .long (v))]) (pc := 88) (gd gk_102 43 rfl) (by rw [gL_102]; decide) (fun _ => rfl) (fun u9_1 hu9_1 => ?_)
        refine gs_lload (pc := 90) (gd gk_102 44 rfl) rfl ?_
        refine gs_lload (pc := 92) (gd gk_102 45 rfl) rfl ?_
        refine gs_iload_n (pc := 94) (gd gk_102 46 rfl) rfl ?_
        refine gs_iconst (pc := 95) (gd gk_102 47 rfl) (-1) rfl ?_
        refine gs_icmp_ne (pc := 96) (gd gk_102 48 rfl) (fun c96 => ?_) (fun c96 => ?_)
        · have hom : ∃ m, o = some m ∧ m < N ∧ ns = Int32.ofNat m := ho.resolve_left (fun q9 => c96 q9.2)
          obtain ⟨m0, hom, hmN, hnm⟩ := hom
          refine gs_aload_n (pc := 109) (gd gk_102 53 rfl) rfl ?_
          refine gs_getR (r := 57) (pc := 110) (gd gk_102 54 rfl) rfl rfl rfl (by decide) ?_
          refine gs_iload_n (pc := 113) (gd gk_102 55 rfl) rfl ?_
          refine gs_callV (as := [.int (ns)]) (pc := 114) (gd gk_102 56 rfl) (by decide) rfl (by decide) rfl rfl (Nat.le_of_ble_eq_true rfl) gq_102_60 (Nat.le_of_ble_eq_true rfl) ((by rw [hnm]; exact c_paid m0 (by omega) t2.2.2.1 (by omega))) (fun r_114 w_114 q_114 => ?_)
          obtain ⟨rfl, rfl⟩ := q_114
          -- end 2: stop, pc 117, locals [(0, .ref (3)), (1, .int (ns)), (2, .int (pl)), (3, .int (Int32.ofNat x)), (4, .long (ab)), (6, .int (Int32.ofNat k)), (7, .int (Int32.ofNat (gz_sn k h0 L L))), (8, .int (Int32.ofNat (gz_pc (gz_sn k h0 L L)))), (9, .long (u9_1))]
          exact tail I_t _ _ t2 bq b59 b6 (by rw [(tr L (Nat.le_refl L)).2.1 m0 hmN, ← hv, hom]; rfl) hu9_1
        · refine gs_aload_n (pc := 99) (gd gk_102 49 rfl) rfl ?_
          refine gs_getR (r := 57) (pc := 100) (gd gk_102 50 rfl) rfl rfl rfl (by decide) ?_
          refine gs_callV (as := []) (pc := 103) (gd gk_102 51 rfl) (by decide) rfl (by decide) rfl rfl (Nat.le_of_ble_eq_true rfl) gq_102_58 (Nat.le_of_ble_eq_true rfl) (c_comes (L := L) t2.2.2.1 (by omega)) (fun r_103 w_103 q_103 => ?_)
          obtain ⟨rfl, rfl⟩ := q_103
          refine gs_goto (pc := 106) (gd gk_102 52 rfl) ?_
          -- end 3: stop, pc 117, locals [(0, .ref (3)), (1, .int (ns)), (2, .int (pl)), (3, .int (Int32.ofNat x)), (4, .long (ab)), (6, .int (Int32.ofNat k)), (7, .int (Int32.ofNat (gz_sn k h0 L L))), (8, .int (Int32.ofNat (gz_pc (gz_sn k h0 L L)))), (9, .long (u9_1))]
          have hon : o = none := by
            rcases ho with q9 | ⟨m0, -, hm0, e9⟩
            · exact q9.1
            · have h5 := z0 m0 (by omega)
              rw [← e9, c96] at h5
              exact absurd h5 (by decide)
          exact tail I_t _ _ t2 bq b59 b6 (by rw [(tr L (Nat.le_refl L)).2.2.1, ← hv, hon]; rfl) hu9_1
  refine gs_aload_n (pc := 0) (gd gk_102 0 rfl) rfl ?_
  refine gs_getR (r := 57) (pc := 1) (gd gk_102 1 rfl) rfl rfl rfl (by decide) ?_
  refine gs_aload_n (pc := 4) (gd gk_102 2 rfl) rfl ?_
  refine gs_getR (r := 12) (pc := 5) (gd gk_102 3 rfl) rfl rfl rfl (by decide) ?_
  refine gs_aload_n (pc := 8) (gd gk_102 4 rfl) rfl ?_
  refine gs_getR (r := 6) (pc := 9) (gd gk_102 5 rfl) rfl rfl rfl (by decide) ?_
  refine gs_getI (pc := 12) (gd gk_102 6 rfl) rfl rfl ?_
  refine gs_as (Int32.ofNat bc) (hbc) ?_
  refine gs_callV (as := [.ref (12), .int (Int32.ofNat bc)]) (pc := 15) (gd gk_102 7 rfl) (by decide) rfl (by decide) rfl rfl (Nat.le_of_ble_eq_true rfl) gq_102_50 (Nat.le_of_ble_eq_true rfl) (c_start_now bc h0 L hok hh hW hb9 h78 h79 h69) (fun r_15 w_15 q_15 => ?_)
  obtain ⟨rfl, I_s, rfl, s1, s2, s3, s4⟩ := q_15
  refine gs_lconst (pc := 18) (gd gk_102 8 rfl) (0) rfl ?_
  refine gs_lstore (ls2 := fun v => [(0, .ref (3)), (1, .int (ns)), (2, .int (pl)), (3, .int (Int32.ofNat x)), (4, .long (v))]) (pc := 19) (gd gk_102 9 rfl) (by rw [gL_102]; decide) (fun _ => rfl) (fun u4_1 hu4_1 => ?_)
  refine gs_iconst (pc := 21) (gd gk_102 10 rfl) (0) rfl ?_
  refine gs_istore (ls2 := fun v => [(0, .ref (3)), (1, .int (ns)), (2, .int (pl)), (3, .int (Int32.ofNat x)), (4, .long (u4_1)), (6, .int (v))]) (pc := 22) (gd gk_102 11 rfl) (by rw [gL_102]; decide) (fun _ => rfl) (fun v6_1 hv6_1 => ?_)
  obtain rfl : v6_1 = Int32.ofNat 0 := hv6_1.trans (by first | rfl | (simp only [Int32.ofNat_add, Int32.ofNat_mul]; rfl) | (simp only [Int32.ofNat_add, Int32.ofNat_mul]))
  -- end 1: stop, pc 24, locals [(0, .ref (3)), (1, .int (ns)), (2, .int (pl)), (3, .int (Int32.ofNat x)), (4, .long (u4_1)), (6, .int (Int32.ofNat 0))]
  exact lp (2 ^ L) 0 (by omega) I_s _ s2 (gq_qf_s s1) s4 s3 hu4_1
end
