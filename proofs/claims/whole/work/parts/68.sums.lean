/-! ===== sums over sets of hours ===== -/
def gy_S (f : Nat → Int) : Nat → Int
  | 0 => 0
  | k + 1 => gy_S f k + f k
theorem gy_S_split (f : Nat → Int) (a : Nat) : ∀ b, gy_S f (a + b) = gy_S f a + gy_S (fun q => f (q + a)) b
  | 0 => by show gy_S f a = gy_S f a + 0; omega
  | b + 1 => by
    show gy_S f (a + b) + f (a + b) = gy_S f a + (gy_S (fun q => f (q + a)) b + f (b + a))
    rw [gy_S_split f a b, Nat.add_comm b a]; omega
theorem gy_S_c {f g : Nat → Int} : ∀ k, (∀ q, q < k → f q = g q) → gy_S f k = gy_S g k
  | 0, _ => rfl
  | k + 1, h => by
    show gy_S f k + f k = gy_S g k + g k
    rw [gy_S_c k (fun q hq => h q (by omega)), h k (by omega)]
theorem gy_S_m (c : Int) (f : Nat → Int) : ∀ k, gy_S (fun q => c * f q) k = c * gy_S f k
  | 0 => (Int.mul_zero c).symm
  | k + 1 => by
    show gy_S (fun q => c * f q) k + c * f k = c * (gy_S f k + f k)
    rw [gy_S_m c f k, Int.mul_add]
theorem gy_S_0 : ∀ k, gy_S (fun _ => 0) k = 0
  | 0 => rfl
  | k + 1 => by show gy_S (fun _ => 0) k + 0 = 0; rw [gy_S_0 k]; rfl
/-- the weight of a set: X an hour that is in it, Y one that isn't; hours that do not count are in none -/
def gy_wt (c : Nat → Bool) (X Y : Int) : Nat → Nat → Int
  | 0, _ => 1
  | k + 1, q => gy_wt c X Y k q * (if c k then (if q.testBit k then X else Y) else (if q.testBit k then 0 else 1))
def gy_T (c : Nat → Bool) (X Y : Int) : Nat → (Nat → Int) → Int
  | 0, v => v 0
  | k + 1, v => if c k then Y * gy_T c X Y k v + X * gy_T c X Y k (fun q => v (q + 2 ^ k)) else gy_T c X Y k v
def gy_n (c : Nat → Bool) : Nat → Nat
  | 0 => 0
  | k + 1 => if c k then gy_n c k + 1 else gy_n c k
theorem gy_wt_lo (c : Nat → Bool) (X Y : Int) {j q : Nat} : ∀ k, k ≤ j → gy_wt c X Y k (q + 2 ^ j) = gy_wt c X Y k q
  | 0, _ => rfl
  | k + 1, hk => by
    unfold gy_wt
    rw [gy_wt_lo c X Y k (by omega), Nat.add_comm q, Nat.testBit_two_pow_add_gt (by omega)]
theorem gy_wt_T (c : Nat → Bool) (X Y : Int) : ∀ k (v : Nat → Int), gy_S (fun q => gy_wt c X Y k q * v q) (2 ^ k) = gy_T c X Y k v
  | 0, v => by show 0 + 1 * v 0 = v 0; omega
  | k + 1, v => by
    rw [Nat.pow_succ, Nat.mul_two, gy_S_split]
    have e1 : gy_S (fun q => gy_wt c X Y (k + 1) q * v q) (2 ^ k) = (if c k then Y else 1) * gy_T c X Y k v := by
      rw [← gy_wt_T c X Y k v, ← gy_S_m]
      refine gy_S_c _ (fun q hq => ?_)
      show gy_wt c X Y k q * _ * v q = _
      rw [Nat.testBit_lt_two_pow hq]
      cases c k <;> simp <;> grind
    have e2 : gy_S (fun q => gy_wt c X Y (k + 1) (q + 2 ^ k) * v (q + 2 ^ k)) (2 ^ k) = (if c k then X else 0) * gy_T c X Y k (fun q => v (q + 2 ^ k)) := by
      rw [← gy_wt_T c X Y k (fun q => v (q + 2 ^ k)), ← gy_S_m]
      refine gy_S_c _ (fun q hq => ?_)
      show gy_wt c X Y k (q + 2 ^ k) * _ * v (q + 2 ^ k) = _
      rw [gy_wt_lo c X Y k (Nat.le_refl k), Nat.add_comm q, Nat.testBit_two_pow_add_eq, Nat.testBit_lt_two_pow hq]
      cases c k <;> simp <;> grind
    rw [e1, e2]
    show _ = if c k then Y * gy_T c X Y k v + X * gy_T c X Y k (fun q => v (q + 2 ^ k)) else gy_T c X Y k v
    cases c k <;> simp
theorem gy_T_c (c : Nat → Bool) (X Y : Int) : ∀ k (v u : Nat → Int), (∀ q, q < 2 ^ k → v q = u q) → gy_T c X Y k v = gy_T c X Y k u := by
  intro k v u h
  rw [← gy_wt_T, ← gy_wt_T]
  exact gy_S_c _ (fun q hq => by rw [h q hq])
theorem gy_T_1 (c : Nat → Bool) {X Y : Int} (h : X + Y = 10) : ∀ k, gy_T c X Y k (fun _ => 1) = 10 ^ gy_n c k
  | 0 => rfl
  | k + 1 => by
    unfold gy_T gy_n
    rw [gy_T_1 c h k]
    cases c k
    · rfl
    · show Y * _ + X * _ = 10 ^ (_ + 1)
      rw [Int.pow_succ, ← Int.add_mul, show Y + X = 10 by omega, Int.mul_comm]
theorem gy_T_fr {c d : Nat → Bool} {X Y : Int} (h : X + Y = 10) : ∀ k (v : Nat → Int), (∀ j, j < k → d j = true → c j = true) → (∀ j, j < k → c j = true → d j = false → ∀ q, q < 2 ^ k → q.testBit j = false → v (q + 2 ^ j) = v q) → gy_T c X Y k v * 10 ^ gy_n d k = gy_T d X Y k v * 10 ^ gy_n c k
  | 0, v, _, _ => rfl
  | k + 1, v, h1, h2 => by
    have hp : 2 ^ (k + 1) = 2 ^ k + 2 ^ k := by rw [Nat.pow_succ, Nat.mul_two]
    have i1 := gy_T_fr h k v (fun j hj => h1 j (by omega)) (fun j hj a b q hq => h2 j (by omega) a b q (by omega))
    have i2 := gy_T_fr h k (fun q => v (q + 2 ^ k)) (fun j hj => h1 j (by omega)) (fun j hj a b q hq hb => by
      show v (q + 2 ^ j + 2 ^ k) = v (q + 2 ^ k)
      rw [show q + 2 ^ j + 2 ^ k = (q + 2 ^ k) + 2 ^ j by omega]
      exact h2 j (by omega) a b (q + 2 ^ k) (by omega) (by rw [Nat.add_comm q, Nat.testBit_two_pow_add_gt hj]; exact hb))
    unfold gy_T gy_n
    by_cases hc : c k = true
    · by_cases hd : d k = true
      · rw [if_pos hc, if_pos hc, if_pos hd, if_pos hd, Int.pow_succ, Int.pow_succ]
        grind
      · have e : gy_T c X Y k (fun q => v (q + 2 ^ k)) = gy_T c X Y k v := gy_T_c c X Y k _ _ (fun q hq => h2 k (by omega) hc (by simpa using hd) q (by omega) (Nat.testBit_lt_two_pow hq))
        rw [if_pos hc, if_pos hc, if_neg hd, if_neg hd, e, Int.pow_succ, ← Int.add_mul, show Y + X = 10 by omega]
        grind
    · have hd : ¬ d k = true := fun q => hc (h1 k (by omega) q)
      rw [if_neg hc, if_neg hc, if_neg hd, if_neg hd]
      exact i1
theorem gy_T_b (c : Nat → Bool) {X Y B : Int} (hX : 0 ≤ X) (hY : 0 ≤ Y) (hB : 0 ≤ B) (h : X + Y = 10) : ∀ k (v : Nat → Int), (∀ q, -B ≤ v q ∧ v q ≤ B) → -(10 ^ k * B) ≤ gy_T c X Y k v ∧ gy_T c X Y k v ≤ 10 ^ k * B
  | 0, v, hv => by have := hv 0; show -(10 ^ 0 * B) ≤ v 0 ∧ v 0 ≤ 10 ^ 0 * B; rw [Int.pow_zero]; omega
  | k + 1, v, hv => by
    have i1 := gy_T_b c hX hY hB h k v hv
    have i2 := gy_T_b c hX hY hB h k (fun q => v (q + 2 ^ k)) (fun q => hv _)
    have hM : 0 ≤ 10 ^ k * B := Int.mul_nonneg (Int.pow_nonneg (by omega)) hB
    have e : (10 : Int) ^ (k + 1) * B = 10 * (10 ^ k * B) := by rw [Int.pow_succ]; grind
    rw [e]
    generalize (10 : Int) ^ k * B = M at *
    unfold gy_T
    split
    · have a1 := Int.mul_le_mul_of_nonneg_left i1.1 hY
      have a2 := Int.mul_le_mul_of_nonneg_left i1.2 hY
      have b1 := Int.mul_le_mul_of_nonneg_left i2.1 hX
      have b2 := Int.mul_le_mul_of_nonneg_left i2.2 hX
      have e1 : Y * M + X * M = 10 * M := by rw [← Int.add_mul, show Y + X = 10 by omega]
      have e2 : Y * -M + X * -M = -(10 * M) := by rw [Int.mul_neg, Int.mul_neg]; omega
      omega
    · omega
/-- a set that has only hours that count -/
def gy_my (c : Nat → Bool) (q : Nat) : Nat → Bool
  | 0 => true
  | k + 1 => gy_my c q k && (!q.testBit k || c k)
def gy_wg (c : Nat → Bool) (X Y : Int) (q : Nat) : Nat → Int
  | 0 => 1
  | k + 1 => gy_wg c X Y q k * (if c k then (if q.testBit k then X else Y) else 1)
theorem gy_wt_g (c : Nat → Bool) (X Y : Int) (q : Nat) : ∀ k, gy_wt c X Y k q = if gy_my c q k then gy_wg c X Y q k else 0
  | 0 => rfl
  | k + 1 => by
    unfold gy_wt gy_my gy_wg
    rw [gy_wt_g c X Y q k]
    cases gy_my c q k <;> cases c k <;> cases q.testBit k <;> simp
/-- how many hours of it are in a set, how many aren't -/
def gy_i (c : Nat → Bool) (q : Nat) : Nat → Nat
  | 0 => 0
  | k + 1 => if c k && q.testBit k then gy_i c q k + 1 else gy_i c q k
def gy_o (c : Nat → Bool) (q : Nat) : Nat → Nat
  | 0 => 0
  | k + 1 => if c k && !q.testBit k then gy_o c q k + 1 else gy_o c q k
theorem gy_wg_p (c : Nat → Bool) (X Y : Int) (q : Nat) : ∀ k, gy_wg c X Y q k = X ^ gy_i c q k * Y ^ gy_o c q k
  | 0 => by show 1 = X ^ 0 * Y ^ 0; rw [Int.pow_zero, Int.pow_zero]; rfl
  | k + 1 => by
    unfold gy_wg gy_i gy_o
    rw [gy_wg_p c X Y q k]
    cases c k <;> cases q.testBit k <;> simp <;> rw [Int.pow_succ] <;> grind
abbrev gy_c (h0 : Nat) : Nat → Bool := fun h => decide (h0 ≤ h)
theorem gy_c_n0 : ∀ h0, h0 < 9 → ∀ L, L < 9 → h0 + L < 9 → gy_n (gy_c h0) (h0 + L) = L := by decide +kernel
theorem gy_c_my0 : ∀ h0, h0 < 9 → ∀ L, L < 9 → h0 + L < 9 → ∀ q, q < 2 ^ (h0 + L) → gy_my (gy_c h0) q (h0 + L) = decide (q % 2 ^ h0 = 0) := by decide +kernel
theorem gy_c_io0 : ∀ h0, h0 < 9 → ∀ L, L < 9 → h0 + L < 9 → ∀ q, q < 2 ^ (h0 + L) → (!decide (q % 2 ^ h0 = 0) || (decide (gy_i (gy_c h0) q (h0 + L) = gz_pc q) && decide (gy_o (gy_c h0) q (h0 + L) = L - gz_pc q) && decide (gz_pc q ≤ L))) = true := by decide +kernel
theorem gy_perm0 : ∀ h0, h0 < 9 → ∀ L, L < 9 → h0 + L < 9 → (((List.range (2 ^ L)).map (fun k => gz_sn k h0 L L)).isPerm ((List.range (2 ^ (h0 + L))).filter (fun q => decide (q % 2 ^ h0 = 0)))) = true := by decide +kernel
theorem gy_S_l (f : Nat → Int) (g : Nat → Nat) : ∀ k, gy_S (fun q => f (g q)) k = ((List.range k).map g).foldl (fun a q => a + f q) 0
  | 0 => rfl
  | k + 1 => by
    rw [List.range_succ, List.map_append, List.foldl_append, ← gy_S_l f g k]
    rfl
theorem gy_S_f (f : Nat → Int) (p : Nat → Bool) : ∀ k, gy_S (fun q => if p q then f q else 0) k = ((List.range k).filter p).foldl (fun a q => a + f q) 0
  | 0 => rfl
  | k + 1 => by
    rw [List.range_succ, List.filter_append, List.foldl_append, ← gy_S_f f p k]
    show gy_S _ k + (if p k then f k else 0) = _
    cases h : p k <;> simp [h]
/-- the class's sum is over all sets of hours that are left -/
theorem gy_sum {h0 L : Nat} (h : h0 + L < 9) (X Y : Int) (v : Nat → Int) : gy_S (fun k => X ^ gz_pc (gz_sn k h0 L L) * Y ^ (L - gz_pc (gz_sn k h0 L L)) * v (gz_sn k h0 L L)) (2 ^ L) = gy_T (gy_c h0) X Y (h0 + L) v := by
  rw [gy_S_l (fun q => X ^ gz_pc q * Y ^ (L - gz_pc q) * v q) (fun k => gz_sn k h0 L L)]
  rw [(List.isPerm_iff.mp (gy_perm0 h0 (by omega) L (by omega) h)).foldl_eq' (fun x _ y _ z => by omega) 0]
  rw [← gy_S_f, ← gy_wt_T]
  refine gy_S_c _ (fun q hq => ?_)
  have e1 := gy_c_my0 h0 (by omega) L (by omega) h q hq
  have e2 := gy_c_io0 h0 (by omega) L (by omega) h q hq
  show _ = gy_wt _ _ _ _ _ * _
  rw [gy_wt_g, e1]
  by_cases a : q % 2 ^ h0 = 0
  · simp [a] at e2 ⊢
    rw [gy_wg_p, e2.1.1, e2.1.2]
  · simp [a]
