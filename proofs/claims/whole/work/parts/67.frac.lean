/-! ===== fractions in least terms ===== -/
/-- a fraction, above or below -/
def gz_fr (A : Int) (B : Nat) (up : Bool) : Int := if up then (mkRat A B).num else ((mkRat A B).den : Int)
theorem gz_fr_one {A C : Int} {B D : Nat} {up : Bool} (hB : B ≠ 0) (hD : D ≠ 0) (h : A * D = C * B) : gz_fr A B up = gz_fr C D up := by
  unfold gz_fr
  rw [(Rat.mkRat_eq_iff hB hD).mpr h]
theorem zdiv64n {a b : Nat} (ha : a < 2 ^ 62) (hb : b < 2 ^ 62) : Int64.ofNat a / Int64.ofNat b = Int64.ofNat (a / b) := by
  have h1 : a / b ≤ a := Nat.div_le_self a b
  apply Int64.toInt_inj.mp
  rw [Int64.toInt_div, Int64.toInt_ofNat_of_lt (by omega), Int64.toInt_ofNat_of_lt (by omega), Int64.toInt_ofNat_of_lt (by omega), ← Int.ofNat_tdiv]
  generalize a / b = c at *
  exact Int.bmod_eq_of_le (by omega) (by omega)
theorem zrem64 {a b : Nat} (ha : a < 2 ^ 62) (hb : b < 2 ^ 62) : Int64.ofNat a - Int64.ofNat a / Int64.ofNat b * Int64.ofNat b = Int64.ofNat (a % b) := by
  have e : Int64.ofNat a = Int64.ofNat (a / b * b) + Int64.ofNat (a % b) := by rw [← Int64.ofNat_add, Nat.div_add_mod']
  rw [zdiv64n ha hb, ← Int64.ofNat_mul, e]
  grind
theorem zdiv64 {A : Int} {g : Nat} (h1 : -2 ^ 62 ≤ A) (h2 : A ≤ 2 ^ 62) (hg : g < 2 ^ 62) (hd : (g : Int) ∣ A) : Int64.ofInt A / Int64.ofNat g = Int64.ofInt (A / g) := by
  have hb : (A.tdiv g).natAbs ≤ A.natAbs := by
    rw [Int.natAbs_tdiv]
    exact Nat.div_le_self _ _
  rw [← Int.tdiv_eq_ediv_of_dvd hd]
  apply Int64.toInt_inj.mp
  rw [Int64.toInt_div, Int64.toInt_ofInt_of_le (by omega) (by omega), Int64.toInt_ofNat_of_lt (by omega), Int64.toInt_ofInt_of_le (by omega) (by omega)]
  exact Int.bmod_eq_of_le (by omega) (by omega)
theorem zabs64 {A : Int} (h1 : -2 ^ 62 ≤ A) (h2 : A ≤ 2 ^ 62) : (if 0 < Int64.ofInt A then Int64.ofInt A else -Int64.ofInt A) = Int64.ofNat A.natAbs := by
  have e : (0 < Int64.ofInt A) ↔ 0 < A := by rw [Int64.lt_iff_toInt_lt, Int64.toInt_ofInt_of_le (by omega) (by omega), Int64.toInt_zero]
  by_cases q : 0 < A
  · rw [if_pos (e.mpr q), ← Int64.ofInt_eq_ofNat, show (A.natAbs : Int) = A by omega]
  · rw [if_neg (fun z => q (e.mp z)), ← Int64.ofInt_eq_ofNat, ← Int64.ofInt_neg, show (A.natAbs : Int) = -A by omega]
theorem zneg64 {A : Int} (h1 : -2 ^ 62 ≤ A) (h2 : A ≤ 2 ^ 62) : Int64.ofInt A < 0 ↔ A < 0 := by rw [Int64.lt_iff_toInt_lt, Int64.toInt_ofInt_of_le (by omega) (by omega), Int64.toInt_zero]
theorem zn64 {b : Nat} (hb : b < 2 ^ 62) : Int64.ofNat b = 0 ↔ b = 0 := by
  constructor
  · intro h
    have := congrArg Int64.toInt h
    rw [Int64.toInt_ofNat_of_lt (by omega), Int64.toInt_zero] at this
    omega
  · intro h; rw [h]; rfl
/-- Euclid ends within k rounds -/
def gz_eu : Nat → Nat → Nat → Prop
  | 0, _, b => b = 0
  | k + 1, a, b => b = 0 ∨ gz_eu k b (a % b)
theorem gz_eu_le : ∀ j a b, b < 2 ^ j → gz_eu (2 * j) a b
  | 0, a, b, h => by show b = 0; have : 2 ^ 0 = 1 := rfl; omega
  | j + 1, a, b, h => by
    rw [show 2 * (j + 1) = 2 * j + 1 + 1 by omega]
    by_cases h0 : b = 0
    · exact .inl h0
    refine .inr ?_
    by_cases h1 : a % b = 0
    · exact .inl h1
    refine .inr (gz_eu_le j _ _ ?_)
    have l1 : a % b < b := Nat.mod_lt _ (by omega)
    generalize a % b = r at *
    have l2 : b % r < r := Nat.mod_lt _ (by omega)
    have l3 := Nat.div_add_mod b r
    have l4 : 1 ≤ b / r := Nat.div_pos (by omega) (by omega)
    have l5 : r * 1 ≤ r * (b / r) := Nat.mul_le_mul_left r l4
    have l6 : 2 ^ (j + 1) = 2 ^ j * 2 := Nat.pow_succ 2 j
    omega
section
variable {V : gw_V} {n : Nat} {I : Nat → Nat → Int32} {J : Nat → Nat → Int64}
theorem c_cd (a b : Nat) (ha : a < 2 ^ 62) (hb0 : 0 < b) (hb : b < 2 ^ 40) : gw_E V 105 (0, [(0, .long (Int64.ofNat a)), (2, .long (Int64.ofNat b))], [], gS n I J, 0, 0) (fun v w' => v = some (.long (Int64.ofNat (Nat.gcd a b))) ∧ w' = gS n I J) := by
  have lp : ∀ (k r c d : Nat), r + k ≤ 100 → gz_eu k c d → Nat.gcd c d = Nat.gcd a b → c < 2 ^ 62 → d < 2 ^ 62 → gw_E V 105 (3, [(0, .long (Int64.ofNat c)), (2, .long (Int64.ofNat d)), (4, .int (Int32.ofNat r))], [], gS n I J, 0, 0) (fun v w' => v = some (.long (Int64.ofNat (Nat.gcd a b))) ∧ w' = gS n I J) := by
    intro k
    have fin : ∀ c d, Nat.gcd c d = Nat.gcd a b → c < 2 ^ 62 → d = 0 → (if 1 < Int64.ofNat c then Int64.ofNat c else 1) = Int64.ofNat (Nat.gcd a b) := by
      intro c d hg hc hd
      rw [hd, Nat.gcd_zero_right] at hg
      have h1 : 0 < c := by rw [hg]; exact Nat.gcd_pos_of_pos_right a hb0
      have e : (1 < Int64.ofNat c) ↔ 1 < c := by
        rw [Int64.lt_iff_toInt_lt, Int64.toInt_ofNat_of_lt (by omega)]
        have : (1 : Int64).toInt = 1 := rfl
        omega
      rw [← hg]
      by_cases q : 1 < c
      · rw [if_pos (e.mpr q)]
      · rw [if_neg (fun z => q (e.mp z)), show c = 1 by omega]; rfl
    induction k with
    | zero =>
      intro r c d hr he hg hc hd
      have he : d = 0 := he
      refine gs_iload (pc := 3) (gd gk_105 2 rfl) rfl ?_
      refine gs_bipush (pc := 5) (gd gk_105 3 rfl) (100) rfl ?_
      refine gs_icmp_ge (pc := 7) (gd gk_105 4 rfl) (fun c7 => ?_) (fun c7 => ?_)
      · replace c7 : 100 ≤ r := (zle (k := 100) (m := r) (by omega) (by omega)).mp c7
        refine gs_lload_n (pc := 32) (gd gk_105 19 rfl) rfl ?_
        refine gs_lconst (pc := 33) (gd gk_105 20 rfl) (1) rfl ?_
        refine gs_mmaxL (pc := 34) (gd gk_105 21 rfl) (by decide) (by decide) (Nat.zero_le _) (Nat.zero_le _) (Nat.le_of_ble_eq_true rfl) ?_
        -- end 1: lreturn (if 1 < Int64.ofNat c then Int64.ofNat c else 1), pc 37, locals [(0, .long (Int64.ofNat c)), (2, .long (Int64.ofNat d)), (4, .int (Int32.ofNat r))]
        exact gs_lret (pc := 37) (gd gk_105 22 rfl) rfl (Nat.zero_le _) (Nat.zero_le _) (⟨by rw [fin c d hg hc he], rfl⟩)
      · replace c7 : ¬ (100 ≤ r) := fun q9 => c7 ((zle (k := 100) (m := r) (by omega) (by omega)).mpr q9)
        refine gs_lload_n (pc := 10) (gd gk_105 5 rfl) rfl ?_
        refine gs_lconst (pc := 11) (gd gk_105 6 rfl) (0) rfl ?_
        refine gs_lcmp (pc := 12) (gd gk_105 7 rfl) ?_
        refine gs_if_eq (pc := 13) (gd gk_105 8 rfl) (fun c13 => ?_) (fun c13 => ?_)
        · refine gs_lload_n (pc := 32) (gd gk_105 19 rfl) rfl ?_
          refine gs_lconst (pc := 33) (gd gk_105 20 rfl) (1) rfl ?_
          refine gs_mmaxL (pc := 34) (gd gk_105 21 rfl) (by decide) (by decide) (Nat.zero_le _) (Nat.zero_le _) (Nat.le_of_ble_eq_true rfl) ?_
          -- end 2: lreturn (if 1 < Int64.ofNat c then Int64.ofNat c else 1), pc 37, locals [(0, .long (Int64.ofNat c)), (2, .long (Int64.ofNat d)), (4, .int (Int32.ofNat r))]
          exact gs_lret (pc := 37) (gd gk_105 22 rfl) rfl (Nat.zero_le _) (Nat.zero_le _) (⟨by rw [fin c d hg hc he], rfl⟩)
        · -- end 3: stop, pc 16, locals [(0, .long (Int64.ofNat c)), (2, .long (Int64.ofNat d)), (4, .int (Int32.ofNat r))]
          exact absurd ((zcmp_eq _ _).mpr ((zn64 hd).mpr he)) c13
    | succ k ih =>
      intro r c d hr he hg hc hd
      refine gs_iload (pc := 3) (gd gk_105 2 rfl) rfl ?_
      refine gs_bipush (pc := 5) (gd gk_105 3 rfl) (100) rfl ?_
      refine gs_icmp_ge (pc := 7) (gd gk_105 4 rfl) (fun c7 => ?_) (fun c7 => ?_)
      · replace c7 : 100 ≤ r := (zle (k := 100) (m := r) (by omega) (by omega)).mp c7
        refine gs_lload_n (pc := 32) (gd gk_105 19 rfl) rfl ?_
        refine gs_lconst (pc := 33) (gd gk_105 20 rfl) (1) rfl ?_
        refine gs_mmaxL (pc := 34) (gd gk_105 21 rfl) (by decide) (by decide) (Nat.zero_le _) (Nat.zero_le _) (Nat.le_of_ble_eq_true rfl) ?_
        -- end 1: lreturn (if 1 < Int64.ofNat c then Int64.ofNat c else 1), pc 37, locals [(0, .long (Int64.ofNat c)), (2, .long (Int64.ofNat d)), (4, .int (Int32.ofNat r))]
        exact absurd c7 (by omega)
      · replace c7 : ¬ (100 ≤ r) := fun q9 => c7 ((zle (k := 100) (m := r) (by omega) (by omega)).mpr q9)
        refine gs_lload_n (pc := 10) (gd gk_105 5 rfl) rfl ?_
        refine gs_lconst (pc := 11) (gd gk_105 6 rfl) (0) rfl ?_
        refine gs_lcmp (pc := 12) (gd gk_105 7 rfl) ?_
        refine gs_if_eq (pc := 13) (gd gk_105 8 rfl) (fun c13 => ?_) (fun c13 => ?_)
        · refine gs_lload_n (pc := 32) (gd gk_105 19 rfl) rfl ?_
          refine gs_lconst (pc := 33) (gd gk_105 20 rfl) (1) rfl ?_
          refine gs_mmaxL (pc := 34) (gd gk_105 21 rfl) (by decide) (by decide) (Nat.zero_le _) (Nat.zero_le _) (Nat.le_of_ble_eq_true rfl) ?_
          -- end 2: lreturn (if 1 < Int64.ofNat c then Int64.ofNat c else 1), pc 37, locals [(0, .long (Int64.ofNat c)), (2, .long (Int64.ofNat d)), (4, .int (Int32.ofNat r))]
          exact gs_lret (pc := 37) (gd gk_105 22 rfl) rfl (Nat.zero_le _) (Nat.zero_le _) (⟨by rw [fin c d hg hc ((zn64 hd).mp ((zcmp_eq _ _).mp c13))], rfl⟩)
        · refine gs_lload_n (pc := 16) (gd gk_105 9 rfl) rfl ?_
          refine gs_lload_n (pc := 17) (gd gk_105 10 rfl) rfl ?_
          refine gs_lrem (pc := 18) (gd gk_105 11 rfl) (fun q9 => c13 ((zcmp_eq _ _).mpr q9)) ?_
          refine gs_lstore (ls2 := fun v => [(0, .long (Int64.ofNat c)), (2, .long (Int64.ofNat d)), (4, .int (Int32.ofNat r)), (5, .long (v))]) (pc := 19) (gd gk_105 12 rfl) (by rw [gL_105]; decide) (fun _ => rfl) (fun u5_1 hu5_1 => ?_)
          refine gs_lload_n (pc := 21) (gd gk_105 13 rfl) rfl ?_
          refine gs_lstore_n (ls2 := fun v => [(0, .long (v)), (2, .long (Int64.ofNat d)), (4, .int (Int32.ofNat r)), (5, .long (u5_1))]) (pc := 22) (gd gk_105 14 rfl) (by rw [gL_105]; decide) (fun _ => rfl) (fun u0_1 hu0_1 => ?_)
          refine gs_lload (pc := 23) (gd gk_105 15 rfl) rfl ?_
          refine gs_lstore_n (ls2 := fun v => [(0, .long (u0_1)), (2, .long (v)), (4, .int (Int32.ofNat r)), (5, .long (u5_1))]) (pc := 25) (gd gk_105 16 rfl) (by rw [gL_105]; decide) (fun _ => rfl) (fun u2_1 hu2_1 => ?_)
          refine gs_iinc (ls2 := fun v => [(0, .long (u0_1)), (2, .long (u2_1)), (4, .int (v)), (5, .long (u5_1))]) (pc := 26) (gd gk_105 17 rfl) rfl (by rw [gL_105]; decide) (fun _ => rfl) (1) rfl (fun v4_1 hv4_1 => ?_)
          obtain rfl : v4_1 = Int32.ofNat (r + 1) := hv4_1.trans (by first | rfl | (simp only [Int32.ofNat_add, Int32.ofNat_mul]; rfl) | (simp only [Int32.ofNat_add, Int32.ofNat_mul]))
          refine gs_goto (pc := 29) (gd gk_105 18 rfl) ?_
          -- end 3: stop, pc 3, locals [(0, .long (u0_1)), (2, .long (u2_1)), (4, .int (Int32.ofNat (r + 1))), (5, .long (u5_1))]
          have d0 : d ≠ 0 := fun q9 => c13 ((zcmp_eq _ _).mpr ((zn64 hd).mpr q9))
          rw [zrem64 hc hd] at hu5_1
          subst hu2_1 hu0_1 hu5_1
          have hm : c % d < d := Nat.mod_lt _ (by omega)
          refine gs_drop [0, 1, 2] rfl (ih (r + 1) d (c % d) (by omega) (he.resolve_left d0) ?_ hd (by omega))
          rw [← hg, Nat.gcd_comm d (c % d), ← Nat.gcd_rec, Nat.gcd_comm]
  refine gs_iconst (pc := 0) (gd gk_105 0 rfl) (0) rfl ?_
  refine gs_istore (ls2 := fun v => [(0, .long (Int64.ofNat a)), (2, .long (Int64.ofNat b)), (4, .int (v))]) (pc := 1) (gd gk_105 1 rfl) (by rw [gL_105]; decide) (fun _ => rfl) (fun v4_1 hv4_1 => ?_)
  obtain rfl : v4_1 = Int32.ofNat 0 := hv4_1.trans (by first | rfl | (simp only [Int32.ofNat_add, Int32.ofNat_mul]; rfl) | (simp only [Int32.ofNat_add, Int32.ofNat_mul]))
  -- end 1: stop, pc 3, locals [(0, .long (Int64.ofNat a)), (2, .long (Int64.ofNat b)), (4, .int (Int32.ofNat 0))]
  exact lp 80 0 a b (by omega) (gz_eu_le 40 a b hb) rfl ha (by omega)
theorem gz_fr_u {A : Int} {B : Nat} (hB : 0 < B) : gz_fr A B true = A / (Nat.gcd A.natAbs B : Nat) := by
  unfold gz_fr
  rw [if_pos rfl, Rat.num_mkRat, if_neg (by omega), Nat.gcd_comm]
theorem gz_fr_l {A : Int} {B : Nat} (hB : 0 < B) : gz_fr A B false = ((B / Nat.gcd A.natAbs B : Nat) : Int) := by
  unfold gz_fr
  rw [if_neg (by decide), Rat.den_mkRat, if_neg (by omega), Nat.gcd_comm]
theorem gz_fr_div {A : Int} {B : Nat} (h1 : -2 ^ 62 ≤ A) (h2 : A ≤ 2 ^ 62) (hB : 0 < B) (hB2 : B < 2 ^ 40) : Int64.ofInt A / Int64.ofNat (Nat.gcd A.natAbs B) = Int64.ofInt (gz_fr A B true) ∧ Int64.ofNat B / Int64.ofNat (Nat.gcd A.natAbs B) = Int64.ofInt (gz_fr A B false) := by
  have hg : Nat.gcd A.natAbs B ≤ B := Nat.gcd_le_right _ hB
  refine ⟨?_, ?_⟩
  · rw [gz_fr_u hB]
    exact zdiv64 h1 h2 (by omega) (Int.ofNat_dvd_left.mpr (Nat.gcd_dvd_left _ _))
  · rw [gz_fr_l hB, Int64.ofInt_eq_ofNat]
    exact zdiv64n (by omega) (by omega)
theorem c_told (A : Int) (B : Nat) (up : Bool) (h1 : -2 ^ 62 < A) (h2 : A < 2 ^ 62) (hB : 0 < B) (hB2 : B < 2 ^ 40) : gw_E V 104 (0, [(0, .long (Int64.ofInt A)), (2, .long (Int64.ofNat B)), (4, .int (gz_b up))], [], gS n I J, 0, 0) (fun v w' => v = some (.long (Int64.ofInt (gz_fr A B up))) ∧ w' = gS n I J) := by
  have hg : Nat.gcd A.natAbs B ≤ B := Nat.gcd_le_right _ hB
  have hg0 : 0 < Nat.gcd A.natAbs B := Nat.gcd_pos_of_pos_right _ hB
  have hne : ¬ Int64.ofNat (Nat.gcd A.natAbs B) = 0 := fun q => by have := (zn64 (by omega)).mp q; omega
  have hd := gz_fr_div (A := A) (B := B) (by omega) (by omega) hB hB2
  refine gs_lload_n (pc := 0) (gd gk_104 0 rfl) rfl ?_
  refine gs_mabsL (pc := 1) (gd gk_104 1 rfl) (by decide) (by decide) (Nat.zero_le _) (Nat.zero_le _) (Nat.le_of_ble_eq_true rfl) ?_
  refine gs_lload_n (pc := 4) (gd gk_104 2 rfl) rfl ?_
  refine gs_callS (as := [.long ((if 0 < Int64.ofInt A then Int64.ofInt A else -Int64.ofInt A)), .long (Int64.ofNat B)]) (pc := 5) (gd gk_104 3 rfl) (by decide) rfl rfl (Nat.le_of_ble_eq_true rfl) gq_104_105 (Nat.le_of_ble_eq_true rfl) ((by rw [zabs64 (A := A) (by omega) (by omega)]; exact c_cd A.natAbs B (by omega) hB hB2)) (fun r_5 w_5 q_5 => ?_)
  obtain ⟨rfl, rfl⟩ := q_5
  refine gs_lstore (ls2 := fun v => [(0, .long (Int64.ofInt A)), (2, .long (Int64.ofNat B)), (4, .int (gz_b up)), (5, .long (v))]) (pc := 8) (gd gk_104 4 rfl) (by rw [gL_104]; decide) (fun _ => rfl) (fun u5_1 hu5_1 => ?_)
  refine gs_iload (pc := 10) (gd gk_104 5 rfl) rfl ?_
  refine gs_if_eq (pc := 12) (gd gk_104 6 rfl) (fun c12 => ?_) (fun c12 => ?_)
  · refine gs_lload_n (pc := 19) (gd gk_104 9 rfl) rfl ?_
    refine gs_lload (pc := 20) (gd gk_104 10 rfl) rfl ?_
    refine gs_ldiv (pc := 22) (gd gk_104 11 rfl) (by rw [hu5_1]; exact hne) ?_
    -- end 1: lreturn (Int64.ofNat B / u5_1), pc 23, locals [(0, .long (Int64.ofInt A)), (2, .long (Int64.ofNat B)), (4, .int (gz_b up)), (5, .long (u5_1))]
    exact gs_lret (pc := 23) (gd gk_104 12 rfl) rfl (Nat.zero_le _) (Nat.zero_le _) (⟨by rw [hu5_1, gz_b_eq.mp c12, hd.2], rfl⟩)
  · refine gs_lload_n (pc := 15) (gd gk_104 7 rfl) rfl ?_
    refine gs_goto (pc := 16) (gd gk_104 8 rfl) ?_
    refine gs_lload (pc := 20) (gd gk_104 10 rfl) rfl ?_
    refine gs_ldiv (pc := 22) (gd gk_104 11 rfl) (by rw [hu5_1]; exact hne) ?_
    -- end 2: lreturn (Int64.ofInt A / u5_1), pc 23, locals [(0, .long (Int64.ofInt A)), (2, .long (Int64.ofNat B)), (4, .int (gz_b up)), (5, .long (u5_1))]
    exact gs_lret (pc := 23) (gd gk_104 12 rfl) rfl (Nat.zero_le _) (Nat.zero_le _) (⟨by rw [hu5_1, gz_b_ne.mp c12, hd.1], rfl⟩)
theorem m_common (A : Int) (b : Nat) (h1 : -2 ^ 62 < A) (h2 : A < 2 ^ 62) (hb : b < 2 ^ 40) : gw_E V 141 (0, [(0, .long (Int64.ofInt A)), (2, .long (Int64.ofNat b))], [], gS n I J, 0, 0) (fun v w' => v = some (.long (Int64.ofNat (Nat.gcd A.natAbs b))) ∧ w' = gS n I J) := by
  have lp : ∀ (k c d : Nat), gz_eu k c d → Nat.gcd c d = Nat.gcd A.natAbs b → c < 2 ^ 62 → d < 2 ^ 62 → gw_E V 141 (17, [(0, .long (Int64.ofInt A)), (2, .long (Int64.ofNat b)), (4, .long (Int64.ofNat c)), (6, .long (Int64.ofNat d))], [], gS n I J, 0, 0) (fun v w' => v = some (.long (Int64.ofNat (Nat.gcd A.natAbs b))) ∧ w' = gS n I J) := by
    intro k
    induction k with
    | zero =>
      intro c d he hg hc hd
      have he : d = 0 := he
      refine gs_lload (pc := 17) (gd gk_141 11 rfl) rfl ?_
      refine gs_lconst (pc := 19) (gd gk_141 12 rfl) (0) rfl ?_
      refine gs_lcmp (pc := 20) (gd gk_141 13 rfl) ?_
      refine gs_if_eq (pc := 21) (gd gk_141 14 rfl) (fun c21 => ?_) (fun c21 => ?_)
      · refine gs_lload (pc := 42) (gd gk_141 24 rfl) rfl ?_
        -- end 1: lreturn Int64.ofNat c, pc 44, locals [(0, .long (Int64.ofInt A)), (2, .long (Int64.ofNat b)), (4, .long (Int64.ofNat c)), (6, .long (Int64.ofNat d))]
        exact gs_lret (pc := 44) (gd gk_141 25 rfl) rfl (Nat.zero_le _) (Nat.zero_le _) (⟨by rw [he, Nat.gcd_zero_right] at hg; rw [hg], rfl⟩)
      · -- end 2: stop, pc 24, locals [(0, .long (Int64.ofInt A)), (2, .long (Int64.ofNat b)), (4, .long (Int64.ofNat c)), (6, .long (Int64.ofNat d))]
        exact absurd ((zcmp_eq _ _).mpr ((zn64 hd).mpr he)) c21
    | succ k ih =>
      intro c d he hg hc hd
      refine gs_lload (pc := 17) (gd gk_141 11 rfl) rfl ?_
      refine gs_lconst (pc := 19) (gd gk_141 12 rfl) (0) rfl ?_
      refine gs_lcmp (pc := 20) (gd gk_141 13 rfl) ?_
      refine gs_if_eq (pc := 21) (gd gk_141 14 rfl) (fun c21 => ?_) (fun c21 => ?_)
      · refine gs_lload (pc := 42) (gd gk_141 24 rfl) rfl ?_
        -- end 1: lreturn Int64.ofNat c, pc 44, locals [(0, .long (Int64.ofInt A)), (2, .long (Int64.ofNat b)), (4, .long (Int64.ofNat c)), (6, .long (Int64.ofNat d))]
        exact gs_lret (pc := 44) (gd gk_141 25 rfl) rfl (Nat.zero_le _) (Nat.zero_le _) (⟨by rw [(zn64 hd).mp ((zcmp_eq _ _).mp c21), Nat.gcd_zero_right] at hg; rw [hg], rfl⟩)
      · refine gs_lload (pc := 24) (gd gk_141 15 rfl) rfl ?_
        refine gs_lload (pc := 26) (gd gk_141 16 rfl) rfl ?_
        refine gs_lrem (pc := 28) (gd gk_141 17 rfl) (fun q9 => c21 ((zcmp_eq _ _).mpr q9)) ?_
        refine gs_lstore (ls2 := fun v => [(0, .long (Int64.ofInt A)), (2, .long (Int64.ofNat b)), (4, .long (Int64.ofNat c)), (6, .long (Int64.ofNat d)), (8, .long (v))]) (pc := 29) (gd gk_141 18 rfl) (by rw [gL_141]; decide) (fun _ => rfl) (fun u8_1 hu8_1 => ?_)
        refine gs_lload (pc := 31) (gd gk_141 19 rfl) rfl ?_
        refine gs_lstore (ls2 := fun v => [(0, .long (Int64.ofInt A)), (2, .long (Int64.ofNat b)), (4, .long (v)), (6, .long (Int64.ofNat d)), (8, .long (u8_1))]) (pc := 33) (gd gk_141 20 rfl) (by rw [gL_141]; decide) (fun _ => rfl) (fun u4_1 hu4_1 => ?_)
        refine gs_lload (pc := 35) (gd gk_141 21 rfl) rfl ?_
        refine gs_lstore (ls2 := fun v => [(0, .long (Int64.ofInt A)), (2, .long (Int64.ofNat b)), (4, .long (u4_1)), (6, .long (v)), (8, .long (u8_1))]) (pc := 37) (gd gk_141 22 rfl) (by rw [gL_141]; decide) (fun _ => rfl) (fun u6_1 hu6_1 => ?_)
        refine gs_goto (pc := 39) (gd gk_141 23 rfl) ?_
        -- end 2: stop, pc 17, locals [(0, .long (Int64.ofInt A)), (2, .long (Int64.ofNat b)), (4, .long (u4_1)), (6, .long (u6_1)), (8, .long (u8_1))]
        have d0 : d ≠ 0 := fun q9 => c21 ((zcmp_eq _ _).mpr ((zn64 hd).mpr q9))
        rw [zrem64 hc hd] at hu8_1
        subst hu6_1 hu4_1 hu8_1
        have hm : c % d < d := Nat.mod_lt _ (by omega)
        refine gs_drop [0, 1, 2, 3] rfl (ih d (c % d) (he.resolve_left d0) ?_ hd (by omega))
        rw [← hg, Nat.gcd_comm d (c % d), ← Nat.gcd_rec, Nat.gcd_comm]
  refine gs_lload_n (pc := 0) (gd gk_141 0 rfl) rfl ?_
  refine gs_lconst (pc := 1) (gd gk_141 1 rfl) (0) rfl ?_
  refine gs_lcmp (pc := 2) (gd gk_141 2 rfl) ?_
  refine gs_if_ge (pc := 3) (gd gk_141 3 rfl) (fun c3 => ?_) (fun c3 => ?_)
  · refine gs_lload_n (pc := 11) (gd gk_141 7 rfl) rfl ?_
    refine gs_lstore (ls2 := fun v => [(0, .long (Int64.ofInt A)), (2, .long (Int64.ofNat b)), (4, .long (v))]) (pc := 12) (gd gk_141 8 rfl) (by rw [gL_141]; decide) (fun _ => rfl) (fun u4_1 hu4_1 => ?_)
    refine gs_lload_n (pc := 14) (gd gk_141 9 rfl) rfl ?_
    refine gs_lstore (ls2 := fun v => [(0, .long (Int64.ofInt A)), (2, .long (Int64.ofNat b)), (4, .long (u4_1)), (6, .long (v))]) (pc := 15) (gd gk_141 10 rfl) (by rw [gL_141]; decide) (fun _ => rfl) (fun u6_1 hu6_1 => ?_)
    -- end 1: stop, pc 17, locals [(0, .long (Int64.ofInt A)), (2, .long (Int64.ofNat b)), (4, .long (u4_1)), (6, .long (u6_1))]
    rw [← Int32.not_lt, zcmp_lt, zneg64 (by omega) (by omega)] at c3
    have e : u4_1 = Int64.ofNat A.natAbs := by rw [hu4_1, ← Int64.ofInt_eq_ofNat, show (A.natAbs : Int) = A by omega]
    subst e hu6_1
    exact lp 80 A.natAbs b (gz_eu_le 40 _ b hb) rfl (by omega) (by omega)
  · refine gs_lload_n (pc := 6) (gd gk_141 4 rfl) rfl ?_
    refine gs_lneg (pc := 7) (gd gk_141 5 rfl) ?_
    refine gs_goto (pc := 8) (gd gk_141 6 rfl) ?_
    refine gs_lstore (ls2 := fun v => [(0, .long (Int64.ofInt A)), (2, .long (Int64.ofNat b)), (4, .long (v))]) (pc := 12) (gd gk_141 8 rfl) (by rw [gL_141]; decide) (fun _ => rfl) (fun u4_2 hu4_2 => ?_)
    refine gs_lload_n (pc := 14) (gd gk_141 9 rfl) rfl ?_
    refine gs_lstore (ls2 := fun v => [(0, .long (Int64.ofInt A)), (2, .long (Int64.ofNat b)), (4, .long (u4_2)), (6, .long (v))]) (pc := 15) (gd gk_141 10 rfl) (by rw [gL_141]; decide) (fun _ => rfl) (fun u6_2 hu6_2 => ?_)
    -- end 2: stop, pc 17, locals [(0, .long (Int64.ofInt A)), (2, .long (Int64.ofNat b)), (4, .long (u4_2)), (6, .long (u6_2))]
    rw [Int32.not_le, zcmp_lt, zneg64 (by omega) (by omega)] at c3
    have e : u4_2 = Int64.ofNat A.natAbs := by rw [hu4_2, ← Int64.ofInt_eq_ofNat, ← Int64.ofInt_neg, show (A.natAbs : Int) = -A by omega]
    subst e hu6_2
    exact lp 80 A.natAbs b (gz_eu_le 40 _ b hb) rfl (by omega) (by omega)
end
