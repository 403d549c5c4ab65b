/-! ===== numbers ===== -/
theorem zlt {k m : Nat} (hk : k < 2 ^ 31) (hm : m < 2 ^ 31) : Int32.ofNat k < Int32.ofNat m ↔ k < m := by
  rw [Int32.lt_iff_toInt_lt, Int32.toInt_ofNat_of_lt hk, Int32.toInt_ofNat_of_lt hm]
  omega
theorem zle {k m : Nat} (hk : k < 2 ^ 31) (hm : m < 2 ^ 31) : Int32.ofNat k ≤ Int32.ofNat m ↔ k ≤ m := by
  rw [Int32.le_iff_toInt_le, Int32.toInt_ofNat_of_lt hk, Int32.toInt_ofNat_of_lt hm]
  omega
theorem zeq {k m : Nat} (hk : k < 2 ^ 31) (hm : m < 2 ^ 31) : Int32.ofNat k = Int32.ofNat m ↔ k = m := by
  constructor
  · intro h
    have := congrArg Int32.toInt h
    rw [Int32.toInt_ofNat_of_lt hk, Int32.toInt_ofNat_of_lt hm] at this
    omega
  · intro h; rw [h]
theorem znn {k : Nat} (hk : k < 2 ^ 31) : (Int32.ofNat k).toNatClampNeg = k := Int32.toNatClampNeg_ofNat_of_lt hk
theorem zsucc (k : Nat) : Int32.ofNat (k + 1) = Int32.ofNat k + 1 := inc_ofNat k
theorem z0 (k : Nat) (hk : k < 2 ^ 31) : (0 : Int32) ≤ Int32.ofNat k := (zle (k := 0) (by decide) hk).mpr (Nat.zero_le _)
theorem zvin {k n : Nat} (h : k < n) (hn : n < 2 ^ 31) : vp_in (Int32.ofNat k) n := vin (z0 k (by omega)) ((zlt (by omega) hn).mpr h) hn
/-- an int that isn't below 0 is a number -/
theorem znat {x : Int32} (h : 0 ≤ x) : Int32.ofNat x.toNatClampNeg = x ∧ x.toNatClampNeg < 2 ^ 31 := by
  have e1 := Int32.le_iff_toInt_le.mp h
  rw [Int32.toInt_zero] at e1
  have e2 : x.toInt < 2 ^ 31 := Int32.toInt_lt x
  have e3 : x.toNatClampNeg = x.toInt.toNat := rfl
  have hl : x.toNatClampNeg < 2 ^ 31 := by omega
  refine ⟨?_, hl⟩
  apply Int32.toInt_inj.mp
  rw [Int32.toInt_ofNat_of_lt hl]
  omega
theorem zle_l {x : Int32} (h : 0 ≤ x) {n : Nat} (hn : n < 2 ^ 31) : x ≤ Int32.ofNat n ↔ x.toNatClampNeg ≤ n := by
  have := znat h
  rw [← zle this.2 hn, this.1]
theorem zlt_l {x : Int32} (h : 0 ≤ x) {n : Nat} (hn : n < 2 ^ 31) : x < Int32.ofNat n ↔ x.toNatClampNeg < n := by
  have := znat h
  rw [← zlt this.2 hn, this.1]
theorem zcmp_lt (x y : Int64) : (lg_cmp x y < 0) ↔ x < y := by
  unfold lg_cmp
  simp only [gt_iff_lt]
  repeat' split
  · rename_i h; constructor
    · intro q; exact absurd q (by decide)
    · intro q; exact absurd (Int64.lt_trans h q) (Int64.lt_irrefl)
  · rename_i h1 h2; subst h2; constructor
    · intro q; exact absurd q (by decide)
    · intro q; exact absurd q Int64.lt_irrefl
  · rename_i h1 h2
    constructor
    · intro _
      have h3 : ¬ y.toInt < x.toInt := fun q => h1 (Int64.lt_iff_toInt_lt.mpr q)
      have h4 : x.toInt ≠ y.toInt := fun q => h2 (Int64.toInt_inj.mp q)
      exact Int64.lt_iff_toInt_lt.mpr (by omega)
    · intro _; decide
theorem zcmp_gt (x y : Int64) : (0 < lg_cmp x y) ↔ y < x := by
  unfold lg_cmp
  simp only [gt_iff_lt]
  repeat' split
  · rename_i h; exact ⟨fun _ => h, fun _ => by decide⟩
  · rename_i h1 h2; exact ⟨fun q => absurd q (by decide), fun q => absurd q h1⟩
  · rename_i h1 h2; exact ⟨fun q => absurd q (by decide), fun q => absurd q h1⟩
/-! ===== small methods that touch no cell ===== -/
def gz_b (b : Bool) : Int32 := match b with | true => 1 | false => 0
theorem gz_b_ne {b : Bool} : ¬ gz_b b = 0 ↔ b = true := by cases b <;> decide
theorem gz_b_eq {b : Bool} : gz_b b = 0 ↔ b = false := by cases b <;> decide
theorem gz_b_nar (b : Bool) : narrow .boolean (.int (gz_b b)) = .int (gz_b b) := by cases b <;> rfl
/-- an int's bit -/
def gz_in (s k : Int32) : Bool := decide ((s >>> (k &&& 31)) &&& 1 = 1)
/-- between two -/
def gz_rg (v a b : Int32) : Bool := decide (a ≤ v ∧ v ≤ b)
theorem gz_rg_t {v a b : Int32} : gz_rg v a b = true ↔ a ≤ v ∧ v ≤ b := by simp [gz_rg]
theorem gz_rg_f {v a b : Int32} : gz_rg v a b = false ↔ ¬ (a ≤ v ∧ v ≤ b) := by simp [gz_rg]
theorem c_in {V : gw_V} {w : gw_W} (s k : Int32) : gw_E V 96 (0, [(0, .int s), (1, .int k)], [], w, 0, 0) (fun v w' => v = some (.int (gz_b (gz_in s k))) ∧ w' = w) := by
  refine gs_iload_n (pc := 0) (gd gk_96 0 rfl) rfl ?_
  refine gs_iload_n (pc := 1) (gd gk_96 1 rfl) rfl ?_
  refine gs_ishr (pc := 2) (gd gk_96 2 rfl) ?_
  refine gs_iconst (pc := 3) (gd gk_96 3 rfl) (1) rfl ?_
  refine gs_iand (pc := 4) (gd gk_96 4 rfl) ?_
  refine gs_iconst (pc := 5) (gd gk_96 5 rfl) (1) rfl ?_
  refine gs_icmp_ne (pc := 6) (gd gk_96 6 rfl) (fun c6 => ?_) (fun c6 => ?_)
  · refine gs_iconst (pc := 13) (gd gk_96 9 rfl) (0) rfl ?_
    -- end 1: ireturn 0, pc 14, locals [(0, .int (s)), (1, .int (k))]
    exact gs_iret (pc := 14) (gd gk_96 10 rfl) rfl (rfl) (Nat.zero_le _) (Nat.zero_le _) (⟨by simp [gz_in, c6, gz_b], rfl⟩)
  · refine gs_iconst (pc := 9) (gd gk_96 7 rfl) (1) rfl ?_
    refine gs_goto (pc := 10) (gd gk_96 8 rfl) ?_
    -- end 2: ireturn 1, pc 14, locals [(0, .int (s)), (1, .int (k))]
    exact gs_iret (pc := 14) (gd gk_96 10 rfl) rfl (rfl) (Nat.zero_le _) (Nat.zero_le _) (⟨by simp [gz_in, c6, gz_b], rfl⟩)
theorem c_mhas {V : gw_V} {w : gw_W} (s k : Int32) : gw_E V 108 (0, [(0, .int s), (1, .int k)], [], w, 0, 0) (fun v w' => v = some (.int (gz_b (gz_in s k))) ∧ w' = w) := by
  refine gs_iload_n (pc := 0) (gd gk_108 0 rfl) rfl ?_
  refine gs_iload_n (pc := 1) (gd gk_108 1 rfl) rfl ?_
  refine gs_ishr (pc := 2) (gd gk_108 2 rfl) ?_
  refine gs_iconst (pc := 3) (gd gk_108 3 rfl) (1) rfl ?_
  refine gs_iand (pc := 4) (gd gk_108 4 rfl) ?_
  refine gs_iconst (pc := 5) (gd gk_108 5 rfl) (1) rfl ?_
  refine gs_icmp_ne (pc := 6) (gd gk_108 6 rfl) (fun c6 => ?_) (fun c6 => ?_)
  · refine gs_iconst (pc := 13) (gd gk_108 9 rfl) (0) rfl ?_
    -- end 1: ireturn 0, pc 14, locals [(0, .int (s)), (1, .int (k))]
    exact gs_iret (pc := 14) (gd gk_108 10 rfl) rfl (rfl) (Nat.zero_le _) (Nat.zero_le _) (⟨by simp [gz_in, c6, gz_b], rfl⟩)
  · refine gs_iconst (pc := 9) (gd gk_108 7 rfl) (1) rfl ?_
    refine gs_goto (pc := 10) (gd gk_108 8 rfl) ?_
    -- end 2: ireturn 1, pc 14, locals [(0, .int (s)), (1, .int (k))]
    exact gs_iret (pc := 14) (gd gk_108 10 rfl) rfl (rfl) (Nat.zero_le _) (Nat.zero_le _) (⟨by simp [gz_in, c6, gz_b], rfl⟩)
theorem c_cell {V : gw_V} {w : gw_W} (x : Int32) : gw_E V 93 (0, [(0, .int x)], [], w, 0, 0) (fun v w' => v = some (.int (gz_b (gz_rg x 0 9))) ∧ w' = w) := by
  refine gs_iload_n (pc := 0) (gd gk_93 0 rfl) rfl ?_
  refine gs_if_lt (pc := 1) (gd gk_93 1 rfl) (fun c1 => ?_) (fun c1 => ?_)
  · refine gs_iconst (pc := 14) (gd gk_93 7 rfl) (0) rfl ?_
    -- end 1: ireturn 0, pc 15, locals [(0, .int (x))]
    exact gs_iret (pc := 15) (gd gk_93 8 rfl) rfl (rfl) (Nat.zero_le _) (Nat.zero_le _) (⟨by rw [gz_rg_f.mpr (by grind)]; rfl, rfl⟩)
  · refine gs_iload_n (pc := 4) (gd gk_93 2 rfl) rfl ?_
    refine gs_bipush (pc := 5) (gd gk_93 3 rfl) (10) rfl ?_
    refine gs_icmp_ge (pc := 7) (gd gk_93 4 rfl) (fun c7 => ?_) (fun c7 => ?_)
    · refine gs_iconst (pc := 14) (gd gk_93 7 rfl) (0) rfl ?_
      -- end 2: ireturn 0, pc 15, locals [(0, .int (x))]
      exact gs_iret (pc := 15) (gd gk_93 8 rfl) rfl (rfl) (Nat.zero_le _) (Nat.zero_le _) (⟨by rw [gz_rg_f.mpr (by grind)]; rfl, rfl⟩)
    · refine gs_iconst (pc := 10) (gd gk_93 5 rfl) (1) rfl ?_
      refine gs_goto (pc := 11) (gd gk_93 6 rfl) ?_
      -- end 3: ireturn 1, pc 15, locals [(0, .int (x))]
      exact gs_iret (pc := 15) (gd gk_93 8 rfl) rfl (rfl) (Nat.zero_le _) (Nat.zero_le _) (⟨by rw [gz_rg_t.mpr (by grind)]; rfl, rfl⟩)
theorem c_plan {V : gw_V} {w : gw_W} (x : Int32) : gw_E V 94 (0, [(0, .int x)], [], w, 0, 0) (fun v w' => v = some (.int (gz_b (gz_rg x 0 255))) ∧ w' = w) := by
  refine gs_iload_n (pc := 0) (gd gk_94 0 rfl) rfl ?_
  refine gs_if_lt (pc := 1) (gd gk_94 1 rfl) (fun c1 => ?_) (fun c1 => ?_)
  · refine gs_iconst (pc := 15) (gd gk_94 7 rfl) (0) rfl ?_
    -- end 1: ireturn 0, pc 16, locals [(0, .int (x))]
    exact gs_iret (pc := 16) (gd gk_94 8 rfl) rfl (rfl) (Nat.zero_le _) (Nat.zero_le _) (⟨by rw [gz_rg_f.mpr (by grind)]; rfl, rfl⟩)
  · refine gs_iload_n (pc := 4) (gd gk_94 2 rfl) rfl ?_
    refine gs_sipush (pc := 5) (gd gk_94 3 rfl) (256) rfl ?_
    refine gs_icmp_ge (pc := 8) (gd gk_94 4 rfl) (fun c8 => ?_) (fun c8 => ?_)
    · refine gs_iconst (pc := 15) (gd gk_94 7 rfl) (0) rfl ?_
      -- end 2: ireturn 0, pc 16, locals [(0, .int (x))]
      exact gs_iret (pc := 16) (gd gk_94 8 rfl) rfl (rfl) (Nat.zero_le _) (Nat.zero_le _) (⟨by rw [gz_rg_f.mpr (by grind)]; rfl, rfl⟩)
    · refine gs_iconst (pc := 11) (gd gk_94 5 rfl) (1) rfl ?_
      refine gs_goto (pc := 12) (gd gk_94 6 rfl) ?_
      -- end 3: ireturn 1, pc 16, locals [(0, .int (x))]
      exact gs_iret (pc := 16) (gd gk_94 8 rfl) rfl (rfl) (Nat.zero_le _) (Nat.zero_le _) (⟨by rw [gz_rg_t.mpr (by grind)]; rfl, rfl⟩)
theorem c_tens {V : gw_V} {w : gw_W} (x : Int32) : gw_E V 95 (0, [(0, .int x)], [], w, 0, 0) (fun v w' => v = some (.int (gz_b (gz_rg x 0 10))) ∧ w' = w) := by
  refine gs_iload_n (pc := 0) (gd gk_95 0 rfl) rfl ?_
  refine gs_if_lt (pc := 1) (gd gk_95 1 rfl) (fun c1 => ?_) (fun c1 => ?_)
  · refine gs_iconst (pc := 14) (gd gk_95 7 rfl) (0) rfl ?_
    -- end 1: ireturn 0, pc 15, locals [(0, .int (x))]
    exact gs_iret (pc := 15) (gd gk_95 8 rfl) rfl (rfl) (Nat.zero_le _) (Nat.zero_le _) (⟨by rw [gz_rg_f.mpr (by grind)]; rfl, rfl⟩)
  · refine gs_iload_n (pc := 4) (gd gk_95 2 rfl) rfl ?_
    refine gs_bipush (pc := 5) (gd gk_95 3 rfl) (10) rfl ?_
    refine gs_icmp_gt (pc := 7) (gd gk_95 4 rfl) (fun c7 => ?_) (fun c7 => ?_)
    · refine gs_iconst (pc := 14) (gd gk_95 7 rfl) (0) rfl ?_
      -- end 2: ireturn 0, pc 15, locals [(0, .int (x))]
      exact gs_iret (pc := 15) (gd gk_95 8 rfl) rfl (rfl) (Nat.zero_le _) (Nat.zero_le _) (⟨by rw [gz_rg_f.mpr (by grind)]; rfl, rfl⟩)
    · refine gs_iconst (pc := 10) (gd gk_95 5 rfl) (1) rfl ?_
      refine gs_goto (pc := 11) (gd gk_95 6 rfl) ?_
      -- end 3: ireturn 1, pc 15, locals [(0, .int (x))]
      exact gs_iret (pc := 15) (gd gk_95 8 rfl) rfl (rfl) (Nat.zero_le _) (Nat.zero_le _) (⟨by rw [gz_rg_t.mpr (by grind)]; rfl, rfl⟩)
theorem c_mrg {V : gw_V} {w : gw_W} (x a b : Int32) : gw_E V 107 (0, [(0, .long x.toInt64), (2, .long a.toInt64), (4, .long b.toInt64)], [], w, 0, 0) (fun v w' => v = some (.int (gz_b (gz_rg x a b))) ∧ w' = w) := by
  refine gs_lload_n (pc := 0) (gd gk_107 0 rfl) rfl ?_
  refine gs_lload_n (pc := 1) (gd gk_107 1 rfl) rfl ?_
  refine gs_lcmp (pc := 2) (gd gk_107 2 rfl) ?_
  refine gs_if_lt (pc := 3) (gd gk_107 3 rfl) (fun c3 => ?_) (fun c3 => ?_)
  · refine gs_iconst (pc := 17) (gd gk_107 10 rfl) (0) rfl ?_
    -- end 1: ireturn 0, pc 18, locals [(0, .long (x.toInt64)), (2, .long (a.toInt64)), (4, .long (b.toInt64))]
    exact gs_iret (pc := 18) (gd gk_107 11 rfl) rfl (rfl) (Nat.zero_le _) (Nat.zero_le _) (⟨by rw [zcmp_lt, Int32.toInt64_lt] at c3; rw [gz_rg_f.mpr (by grind)]; rfl, rfl⟩)
  · refine gs_lload_n (pc := 6) (gd gk_107 4 rfl) rfl ?_
    refine gs_lload (pc := 7) (gd gk_107 5 rfl) rfl ?_
    refine gs_lcmp (pc := 9) (gd gk_107 6 rfl) ?_
    refine gs_if_gt (pc := 10) (gd gk_107 7 rfl) (fun c10 => ?_) (fun c10 => ?_)
    · refine gs_iconst (pc := 17) (gd gk_107 10 rfl) (0) rfl ?_
      -- end 2: ireturn 0, pc 18, locals [(0, .long (x.toInt64)), (2, .long (a.toInt64)), (4, .long (b.toInt64))]
      exact gs_iret (pc := 18) (gd gk_107 11 rfl) rfl (rfl) (Nat.zero_le _) (Nat.zero_le _) (⟨by rw [zcmp_gt, Int32.toInt64_lt] at c10; rw [gz_rg_f.mpr (by grind)]; rfl, rfl⟩)
    · refine gs_iconst (pc := 13) (gd gk_107 8 rfl) (1) rfl ?_
      refine gs_goto (pc := 14) (gd gk_107 9 rfl) ?_
      -- end 3: ireturn 1, pc 18, locals [(0, .long (x.toInt64)), (2, .long (a.toInt64)), (4, .long (b.toInt64))]
      exact gs_iret (pc := 18) (gd gk_107 11 rfl) rfl (rfl) (Nat.zero_le _) (Nat.zero_le _) (⟨by rw [zcmp_lt, Int32.toInt64_lt] at c3; rw [zcmp_gt, Int32.toInt64_lt] at c10; rw [gz_rg_t.mpr (by grind)]; rfl, rfl⟩)
/-- the number of ones among eight bits -/
def gz_pc (p : Nat) : Nat := (p.testBit 0).toNat + (p.testBit 1).toNat + (p.testBit 2).toNat + (p.testBit 3).toNat + (p.testBit 4).toNat + (p.testBit 5).toNat + (p.testBit 6).toNat + (p.testBit 7).toNat
def gz_on (s : Int32) : Nat → Int32
  | 0 => 0
  | k + 1 => gz_on s k + ((s >>> (Int32.ofNat k &&& 31)) &&& 1)
theorem gz_on_pc : ∀ p, p < 256 → gz_on (Int32.ofNat p) 8 = Int32.ofNat (gz_pc p) := by decide +kernel
theorem c_ones {V : gw_V} {w : gw_W} (s : Int32) : gw_E V 109 (0, [(0, .int s)], [], w, 0, 0) (fun v w' => v = some (.int (gz_on s 8)) ∧ w' = w) := by
  have key : ∀ (m k : Nat), m + k = 8 → ∀ x, x = gz_on s k → gw_E V 109 (4, [(0, .int s), (1, .int x), (2, .int (Int32.ofNat k))], [], w, 0, 0) (fun v w' => v = some (.int (gz_on s 8)) ∧ w' = w) := by
    intro m
    induction m with
    | zero =>
      intro k hk x hx
      obtain rfl : k = 8 := by omega
      refine gs_iload_n (pc := 4) (gd gk_109 4 rfl) rfl ?_
      refine gs_bipush (pc := 5) (gd gk_109 5 rfl) (8) rfl ?_
      refine gs_icmp_ge (pc := 7) (gd gk_109 6 rfl) (fun c7 => ?_) (fun c7 => ?_)
      · replace c7 : 8 ≤ 8 := (zle (k := 8) (m := 8) (by omega) (by omega)).mp c7
        refine gs_iload_n (pc := 24) (gd gk_109 17 rfl) rfl ?_
        -- end 1: ireturn x, pc 25, locals [(0, .int (s)), (1, .int (x)), (2, .int (Int32.ofNat 8))]
        exact gs_iret (pc := 25) (gd gk_109 18 rfl) rfl (rfl) (Nat.zero_le _) (Nat.zero_le _) (⟨by rw [hx], rfl⟩)
      · replace c7 : ¬ (8 ≤ 8) := fun q9 => c7 ((zle (k := 8) (m := 8) (by omega) (by omega)).mpr q9)
        refine gs_iload_n (pc := 10) (gd gk_109 7 rfl) rfl ?_
        refine gs_iload_n (pc := 11) (gd gk_109 8 rfl) rfl ?_
        refine gs_iload_n (pc := 12) (gd gk_109 9 rfl) rfl ?_
        refine gs_ishr (pc := 13) (gd gk_109 10 rfl) ?_
        refine gs_iconst (pc := 14) (gd gk_109 11 rfl) (1) rfl ?_
        refine gs_iand (pc := 15) (gd gk_109 12 rfl) ?_
        refine gs_iadd (pc := 16) (gd gk_109 13 rfl) ?_
        refine gs_istore_n (ls2 := fun v => [(0, .int (s)), (1, .int (v)), (2, .int (Int32.ofNat 8))]) (pc := 17) (gd gk_109 14 rfl) (by rw [gL_109]; decide) (fun _ => rfl) (fun v1_1 hv1_1 => ?_)
        refine gs_iinc (ls2 := fun v => [(0, .int (s)), (1, .int (v1_1)), (2, .int (v))]) (pc := 18) (gd gk_109 15 rfl) rfl (by rw [gL_109]; decide) (fun _ => rfl) (1) rfl (fun v2_1 hv2_1 => ?_)
        obtain rfl : v2_1 = Int32.ofNat (8 + 1) := hv2_1.trans (by first | rfl | (simp only [Int32.ofNat_add, Int32.ofNat_mul]; rfl) | (simp only [Int32.ofNat_add, Int32.ofNat_mul]))
        refine gs_goto (pc := 21) (gd gk_109 16 rfl) ?_
        -- end 2: stop, pc 4, locals [(0, .int (s)), (1, .int (v1_1)), (2, .int (Int32.ofNat (8 + 1)))]
        exact absurd (Nat.le_refl 8) c7
    | succ m ih =>
      intro k hk x hx
      refine gs_iload_n (pc := 4) (gd gk_109 4 rfl) rfl ?_
      refine gs_bipush (pc := 5) (gd gk_109 5 rfl) (8) rfl ?_
      refine gs_icmp_ge (pc := 7) (gd gk_109 6 rfl) (fun c7 => ?_) (fun c7 => ?_)
      · replace c7 : 8 ≤ k := (zle (k := 8) (m := k) (by omega) (by omega)).mp c7
        refine gs_iload_n (pc := 24) (gd gk_109 17 rfl) rfl ?_
        -- end 1: ireturn x, pc 25, locals [(0, .int (s)), (1, .int (x)), (2, .int (Int32.ofNat k))]
        exact absurd c7 (by omega)
      · replace c7 : ¬ (8 ≤ k) := fun q9 => c7 ((zle (k := 8) (m := k) (by omega) (by omega)).mpr q9)
        refine gs_iload_n (pc := 10) (gd gk_109 7 rfl) rfl ?_
        refine gs_iload_n (pc := 11) (gd gk_109 8 rfl) rfl ?_
        refine gs_iload_n (pc := 12) (gd gk_109 9 rfl) rfl ?_
        refine gs_ishr (pc := 13) (gd gk_109 10 rfl) ?_
        refine gs_iconst (pc := 14) (gd gk_109 11 rfl) (1) rfl ?_
        refine gs_iand (pc := 15) (gd gk_109 12 rfl) ?_
        refine gs_iadd (pc := 16) (gd gk_109 13 rfl) ?_
        refine gs_istore_n (ls2 := fun v => [(0, .int (s)), (1, .int (v)), (2, .int (Int32.ofNat k))]) (pc := 17) (gd gk_109 14 rfl) (by rw [gL_109]; decide) (fun _ => rfl) (fun v1_1 hv1_1 => ?_)
        refine gs_iinc (ls2 := fun v => [(0, .int (s)), (1, .int (v1_1)), (2, .int (v))]) (pc := 18) (gd gk_109 15 rfl) rfl (by rw [gL_109]; decide) (fun _ => rfl) (1) rfl (fun v2_1 hv2_1 => ?_)
        obtain rfl : v2_1 = Int32.ofNat (k + 1) := hv2_1.trans (by first | rfl | (simp only [Int32.ofNat_add, Int32.ofNat_mul]; rfl) | (simp only [Int32.ofNat_add, Int32.ofNat_mul]))
        refine gs_goto (pc := 21) (gd gk_109 16 rfl) ?_
        -- end 2: stop, pc 4, locals [(0, .int (s)), (1, .int (v1_1)), (2, .int (Int32.ofNat (k + 1)))]
        exact ih (k + 1) (by omega) _ (by rw [hv1_1, hx]; rfl)
  refine gs_iconst (pc := 0) (gd gk_109 0 rfl) (0) rfl ?_
  refine gs_istore_n (ls2 := fun v => [(0, .int (s)), (1, .int (v))]) (pc := 1) (gd gk_109 1 rfl) (by rw [gL_109]; decide) (fun _ => rfl) (fun v1_1 hv1_1 => ?_)
  obtain rfl : v1_1 = Int32.ofNat 0 := hv1_1.trans (by first | rfl | (simp only [Int32.ofNat_add, Int32.ofNat_mul]; rfl) | (simp only [Int32.ofNat_add, Int32.ofNat_mul]))
  refine gs_iconst (pc := 2) (gd gk_109 2 rfl) (0) rfl ?_
  refine gs_istore_n (ls2 := fun v => [(0, .int (s)), (1, .int (Int32.ofNat 0)), (2, .int (v))]) (pc := 3) (gd gk_109 3 rfl) (by rw [gL_109]; decide) (fun _ => rfl) (fun v2_1 hv2_1 => ?_)
  obtain rfl : v2_1 = Int32.ofNat 0 := hv2_1.trans (by first | rfl | (simp only [Int32.ofNat_add, Int32.ofNat_mul]; rfl) | (simp only [Int32.ofNat_add, Int32.ofNat_mul]))
  -- end 1: stop, pc 4, locals [(0, .int (s)), (1, .int (Int32.ofNat 0)), (2, .int (Int32.ofNat 0))]
  exact key 8 0 rfl _ rfl
def gz_bc (x : Int32) : Int32 :=
  let a := x - ((x.toUInt32 >>> ((1 : Int32).toUInt32 &&& Int32.toUInt32 31)).toInt32 &&& 1431655765)
  let b := (a &&& 858993459) + ((a.toUInt32 >>> ((2 : Int32).toUInt32 &&& Int32.toUInt32 31)).toInt32 &&& 858993459)
  let c := (b + (b.toUInt32 >>> ((4 : Int32).toUInt32 &&& Int32.toUInt32 31)).toInt32) &&& 252645135
  let d := c + (c.toUInt32 >>> ((8 : Int32).toUInt32 &&& Int32.toUInt32 31)).toInt32
  let e := d + (d.toUInt32 >>> ((16 : Int32).toUInt32 &&& Int32.toUInt32 31)).toInt32
  e &&& 63
theorem gz_bc_pc : ∀ p, p < 256 → gz_bc (Int32.ofNat p) = Int32.ofNat (gz_pc p) := by decide +kernel
theorem c_bits {V : gw_V} {w : gw_W} (p : Nat) (hp : p < 256) : gw_E V 163 (0, [(0, .int (Int32.ofNat p))], [], w, 0, 0) (fun v w' => v = some (.int (Int32.ofNat (gz_pc p))) ∧ w' = w) := by
  refine gs_iload_n (pc := 0) (gd gk_163 0 rfl) rfl ?_
  refine gs_iload_n (pc := 1) (gd gk_163 1 rfl) rfl ?_
  refine gs_iconst (pc := 2) (gd gk_163 2 rfl) (1) rfl ?_
  refine gs_iushr (pc := 3) (gd gk_163 3 rfl) ?_
  refine gs_ldc_w (pc := 4) (gd gk_163 4 rfl) (1431655765) rfl ?_
  refine gs_iand (pc := 7) (gd gk_163 5 rfl) ?_
  refine gs_isub (pc := 8) (gd gk_163 6 rfl) ?_
  refine gs_istore_n (ls2 := fun v => [(0, .int (v))]) (pc := 9) (gd gk_163 7 rfl) (by rw [gL_163]; decide) (fun _ => rfl) (fun v0_1 hv0_1 => ?_)
  refine gs_iload_n (pc := 10) (gd gk_163 8 rfl) rfl ?_
  refine gs_ldc_w (pc := 11) (gd gk_163 9 rfl) (858993459) rfl ?_
  refine gs_iand (pc := 14) (gd gk_163 10 rfl) ?_
  refine gs_iload_n (pc := 15) (gd gk_163 11 rfl) rfl ?_
  refine gs_iconst (pc := 16) (gd gk_163 12 rfl) (2) rfl ?_
  refine gs_iushr (pc := 17) (gd gk_163 13 rfl) ?_
  refine gs_ldc_w (pc := 18) (gd gk_163 14 rfl) (858993459) rfl ?_
  refine gs_iand (pc := 21) (gd gk_163 15 rfl) ?_
  refine gs_iadd (pc := 22) (gd gk_163 16 rfl) ?_
  refine gs_istore_n (ls2 := fun v => [(0, .int (v))]) (pc := 23) (gd gk_163 17 rfl) (by rw [gL_163]; decide) (fun _ => rfl) (fun v0_2 hv0_2 => ?_)
  refine gs_iload_n (pc := 24) (gd gk_163 18 rfl) rfl ?_
  refine gs_iload_n (pc := 25) (gd gk_163 19 rfl) rfl ?_
  refine gs_iconst (pc := 26) (gd gk_163 20 rfl) (4) rfl ?_
  refine gs_iushr (pc := 27) (gd gk_163 21 rfl) ?_
  refine gs_iadd (pc := 28) (gd gk_163 22 rfl) ?_
  refine gs_ldc_w (pc := 29) (gd gk_163 23 rfl) (252645135) rfl ?_
  refine gs_iand (pc := 32) (gd gk_163 24 rfl) ?_
  refine gs_istore_n (ls2 := fun v => [(0, .int (v))]) (pc := 33) (gd gk_163 25 rfl) (by rw [gL_163]; decide) (fun _ => rfl) (fun v0_3 hv0_3 => ?_)
  refine gs_iload_n (pc := 34) (gd gk_163 26 rfl) rfl ?_
  refine gs_iload_n (pc := 35) (gd gk_163 27 rfl) rfl ?_
  refine gs_bipush (pc := 36) (gd gk_163 28 rfl) (8) rfl ?_
  refine gs_iushr (pc := 38) (gd gk_163 29 rfl) ?_
  refine gs_iadd (pc := 39) (gd gk_163 30 rfl) ?_
  refine gs_istore_n (ls2 := fun v => [(0, .int (v))]) (pc := 40) (gd gk_163 31 rfl) (by rw [gL_163]; decide) (fun _ => rfl) (fun v0_4 hv0_4 => ?_)
  refine gs_iload_n (pc := 41) (gd gk_163 32 rfl) rfl ?_
  refine gs_iload_n (pc := 42) (gd gk_163 33 rfl) rfl ?_
  refine gs_bipush (pc := 43) (gd gk_163 34 rfl) (16) rfl ?_
  refine gs_iushr (pc := 45) (gd gk_163 35 rfl) ?_
  refine gs_iadd (pc := 46) (gd gk_163 36 rfl) ?_
  refine gs_istore_n (ls2 := fun v => [(0, .int (v))]) (pc := 47) (gd gk_163 37 rfl) (by rw [gL_163]; decide) (fun _ => rfl) (fun v0_5 hv0_5 => ?_)
  refine gs_iload_n (pc := 48) (gd gk_163 38 rfl) rfl ?_
  refine gs_bipush (pc := 49) (gd gk_163 39 rfl) (63) rfl ?_
  refine gs_iand (pc := 51) (gd gk_163 40 rfl) ?_
  -- end 1: ireturn (v0_5 &&& 63), pc 52, locals [(0, .int (v0_5))]
  exact gs_iret (pc := 52) (gd gk_163 41 rfl) rfl (rfl) (Nat.zero_le _) (Nat.zero_le _) (⟨by rw [← gz_bc_pc p hp]; subst hv0_5 hv0_4 hv0_3 hv0_2 hv0_1; rfl, rfl⟩)
/-- fewer hours, of like ones the smaller -/
def gz_sm (p q : Nat) : Bool := decide (gz_pc p < gz_pc q ∨ gz_pc p = gz_pc q ∧ p < q)
theorem gz_pc_le (p : Nat) : gz_pc p ≤ 8 := by
  have : ∀ b : Bool, b.toNat ≤ 1 := by decide
  unfold gz_pc
  have := this (p.testBit 0); have := ‹∀ b : Bool, b.toNat ≤ 1› (p.testBit 1); have := ‹∀ b : Bool, b.toNat ≤ 1› (p.testBit 2); have := ‹∀ b : Bool, b.toNat ≤ 1› (p.testBit 3); have := ‹∀ b : Bool, b.toNat ≤ 1› (p.testBit 4); have := ‹∀ b : Bool, b.toNat ≤ 1› (p.testBit 5); have := ‹∀ b : Bool, b.toNat ≤ 1› (p.testBit 6); have := ‹∀ b : Bool, b.toNat ≤ 1› (p.testBit 7)
  omega
theorem zsub_gt {a b : Nat} (ha : a ≤ 8) (hb : b ≤ 8) : ((0 : Int32) < Int32.ofNat b - Int32.ofNat a ↔ a < b) ∧ (¬ Int32.ofNat b - Int32.ofNat a = 0 ↔ a ≠ b) := by
  have h : ∀ a, a < 9 → ∀ b, b < 9 → (((0 : Int32) < Int32.ofNat b - Int32.ofNat a ↔ a < b) ∧ (¬ Int32.ofNat b - Int32.ofNat a = 0 ↔ a ≠ b)) := by decide +kernel
  exact h a (by omega) b (by omega)
theorem c_small {V : gw_V} {w : gw_W} (p q : Nat) (hp : p < 256) (hq : q < 256) : gw_E V 7 (0, [(0, .int (Int32.ofNat p)), (1, .int (Int32.ofNat q))], [], w, 0, 0) (fun v w' => v = some (.int (gz_b (gz_sm p q))) ∧ w' = w) := by
  have hd := zsub_gt (gz_pc_le p) (gz_pc_le q)
  refine gs_iload_n (pc := 0) (gd gk_7 0 rfl) rfl ?_
  refine gs_callS (as := [.int (Int32.ofNat q)]) (pc := 1) (gd gk_7 1 rfl) (by decide) rfl rfl (Nat.le_of_ble_eq_true rfl) gq_7_163 (Nat.le_of_ble_eq_true rfl) (c_bits q hq) (fun r_1 w_1 q_1 => ?_)
  obtain ⟨rfl, rfl⟩ := q_1
  refine gs_iload_n (pc := 4) (gd gk_7 2 rfl) rfl ?_
  refine gs_callS (as := [.int (Int32.ofNat p)]) (pc := 5) (gd gk_7 3 rfl) (by decide) rfl rfl (Nat.le_of_ble_eq_true rfl) gq_7_163 (Nat.le_of_ble_eq_true rfl) (c_bits p hp) (fun r_5 w_5 q_5 => ?_)
  obtain ⟨rfl, rfl⟩ := q_5
  refine gs_isub (pc := 8) (gd gk_7 4 rfl) ?_
  refine gs_istore_n (ls2 := fun v => [(0, .int (Int32.ofNat p)), (1, .int (Int32.ofNat q)), (2, .int (v))]) (pc := 9) (gd gk_7 5 rfl) (by rw [gL_7]; decide) (fun _ => rfl) (fun v2_1 hv2_1 => ?_)
  refine gs_iload_n (pc := 10) (gd gk_7 6 rfl) rfl ?_
  refine gs_if_gt (pc := 11) (gd gk_7 7 rfl) (fun c11 => ?_) (fun c11 => ?_)
  · refine gs_iconst (pc := 23) (gd gk_7 13 rfl) (1) rfl ?_
    refine gs_goto (pc := 24) (gd gk_7 14 rfl) ?_
    -- end 1: ireturn 1, pc 28, locals [(0, .int (Int32.ofNat p)), (1, .int (Int32.ofNat q)), (2, .int (v2_1))]
    rw [hv2_1] at c11
    have := hd.1.mp c11
    exact gs_iret (pc := 28) (gd gk_7 16 rfl) rfl (rfl) (Nat.zero_le _) (Nat.zero_le _) (⟨by rw [show gz_sm p q = true by simp [gz_sm]; omega]; rfl, rfl⟩)
  · refine gs_iload_n (pc := 14) (gd gk_7 8 rfl) rfl ?_
    refine gs_if_ne (pc := 15) (gd gk_7 9 rfl) (fun c15 => ?_) (fun c15 => ?_)
    · refine gs_iconst (pc := 27) (gd gk_7 15 rfl) (0) rfl ?_
      -- end 2: ireturn 0, pc 28, locals [(0, .int (Int32.ofNat p)), (1, .int (Int32.ofNat q)), (2, .int (v2_1))]
      rw [hv2_1] at c11 c15
      have h1 : ¬ gz_pc p < gz_pc q := fun q9 => c11 (hd.1.mpr q9); have h2 := hd.2.mp c15
      exact gs_iret (pc := 28) (gd gk_7 16 rfl) rfl (rfl) (Nat.zero_le _) (Nat.zero_le _) (⟨by rw [show gz_sm p q = false by simp [gz_sm]; omega]; rfl, rfl⟩)
    · refine gs_iload_n (pc := 18) (gd gk_7 10 rfl) rfl ?_
      refine gs_iload_n (pc := 19) (gd gk_7 11 rfl) rfl ?_
      refine gs_icmp_ge (pc := 20) (gd gk_7 12 rfl) (fun c20 => ?_) (fun c20 => ?_)
      · replace c20 : q ≤ p := (zle (k := q) (m := p) (by omega) (by omega)).mp c20
        refine gs_iconst (pc := 27) (gd gk_7 15 rfl) (0) rfl ?_
        -- end 3: ireturn 0, pc 28, locals [(0, .int (Int32.ofNat p)), (1, .int (Int32.ofNat q)), (2, .int (v2_1))]
        rw [hv2_1] at c11 c15
        have h1 : ¬ gz_pc p < gz_pc q := fun q9 => c11 (hd.1.mpr q9); have h2 : ¬ gz_pc p ≠ gz_pc q := fun q9 => (hd.2.mpr q9) c15
        exact gs_iret (pc := 28) (gd gk_7 16 rfl) rfl (rfl) (Nat.zero_le _) (Nat.zero_le _) (⟨by rw [show gz_sm p q = false by simp [gz_sm]; omega]; rfl, rfl⟩)
      · replace c20 : ¬ (q ≤ p) := fun q9 => c20 ((zle (k := q) (m := p) (by omega) (by omega)).mpr q9)
        refine gs_iconst (pc := 23) (gd gk_7 13 rfl) (1) rfl ?_
        refine gs_goto (pc := 24) (gd gk_7 14 rfl) ?_
        -- end 4: ireturn 1, pc 28, locals [(0, .int (Int32.ofNat p)), (1, .int (Int32.ofNat q)), (2, .int (v2_1))]
        rw [hv2_1] at c11 c15
        have h1 : ¬ gz_pc p < gz_pc q := fun q9 => c11 (hd.1.mpr q9); have h2 : ¬ gz_pc p ≠ gz_pc q := fun q9 => (hd.2.mpr q9) c15
        exact gs_iret (pc := 28) (gd gk_7 16 rfl) rfl (rfl) (Nat.zero_le _) (Nat.zero_le _) (⟨by rw [show gz_sm p q = true by simp [gz_sm]; omega]; rfl, rfl⟩)
