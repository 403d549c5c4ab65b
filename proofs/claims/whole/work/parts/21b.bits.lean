/-! ===== bits ===== -/
theorem gz_sh : ∀ j, j < 32 → (Int32.ofNat j &&& 31).toBitVec.smod 32 = BitVec.ofNat 32 j := by decide +kernel
theorem gz_bit (s : Int32) {j : Nat} (hj : j < 32) : gz_in s (Int32.ofNat j) = s.toBitVec.getLsbD j := by
  have e : ((s >>> (Int32.ofNat j &&& 31)) &&& 1).toBitVec = (s.toBitVec.sshiftRight j) &&& 1#32 := by
    show (s.toBitVec.sshiftRight' ((Int32.ofNat j &&& 31).toBitVec.smod 32)) &&& 1#32 = _
    rw [gz_sh j hj]
    show (s.toBitVec.sshiftRight (BitVec.ofNat 32 j).toNat) &&& 1#32 = _
    rw [BitVec.toNat_ofNat, Nat.mod_eq_of_lt (by omega)]
  have e2 : (s.toBitVec.sshiftRight j).getLsbD 0 = s.toBitVec.getLsbD j := by
    rw [BitVec.getLsbD_sshiftRight]
    simp
    intro h
    omega
  unfold gz_in
  rw [← e2]
  have e3 : ((s >>> (Int32.ofNat j &&& 31)) &&& 1 = 1) ↔ (s.toBitVec.sshiftRight j).getLsbD 0 = true := by
    rw [← Int32.toBitVec_inj, e, BitVec.and_one_eq_setWidth_ofBool_getLsbD]
    show _ = 1#32 ↔ _
    cases (s.toBitVec.sshiftRight j).getLsbD 0 <;> decide
  rw [Bool.eq_iff_iff, decide_eq_true_iff]
  exact e3
theorem gz_bitn (p : Nat) {j : Nat} (hj : j < 32) : gz_in (Int32.ofNat p) (Int32.ofNat j) = p.testBit j := by
  rw [gz_bit _ hj]
  show (BitVec.ofNat 32 p).getLsbD j = _
  rw [BitVec.getLsbD_ofNat]
  simp [hj]
theorem gz_xor (a b : Int32) {j : Nat} (hj : j < 32) : gz_in (a ^^^ b) (Int32.ofNat j) = (gz_in a (Int32.ofNat j) ^^ gz_in b (Int32.ofNat j)) := by
  rw [gz_bit _ hj, gz_bit _ hj, gz_bit _ hj]
  show (a.toBitVec ^^^ b.toBitVec).getLsbD j = _
  rw [BitVec.getLsbD_xor]
theorem gz_or (a b : Int32) {j : Nat} (hj : j < 32) : gz_in (a ||| b) (Int32.ofNat j) = (gz_in a (Int32.ofNat j) || gz_in b (Int32.ofNat j)) := by
  rw [gz_bit _ hj, gz_bit _ hj, gz_bit _ hj]
  show (a.toBitVec ||| b.toBitVec).getLsbD j = _
  rw [BitVec.getLsbD_or]
theorem gz_one : ∀ k, k < 32 → ∀ j, j < 32 → gz_in (1 <<< (Int32.ofNat k &&& 31)) (Int32.ofNat j) = decide (k = j) := by decide +kernel
theorem gz_zero {j : Nat} (hj : j < 32) : gz_in 0 (Int32.ofNat j) = false := by
  rw [gz_bit _ hj]
  show (0#32).getLsbD j = false
  simp
theorem gq_who_bit (σ : Nat → Nat → Int32) (sm : Nat → Int32) {j : Nat} (hj : j < 32) : ∀ k, k ≤ 32 → gz_in (gq_who σ sm k) (Int32.ofNat j) = (decide (j < k) && gq_has σ sm j)
  | 0, _ => by rw [show gq_who σ sm 0 = 0 from rfl, gz_zero hj]; simp
  | k + 1, hk => by
    have ih := gq_who_bit σ sm hj k (by omega)
    unfold gq_who
    by_cases h : gq_has σ sm k = true
    · rw [if_pos h, gz_or _ _ hj, ih, gz_one k (by omega) j hj]
      by_cases e : k = j
      · subst e; simp [h]
      · have : decide (j < k + 1) = decide (j < k) := by rw [decide_eq_decide]; omega
        simp [this, e]
    · rw [if_neg h, ih]
      by_cases e : k = j
      · subst e; simp at h; simp [h]
      · have : decide (j < k + 1) = decide (j < k) := by rw [decide_eq_decide]; omega
        rw [this]
/-- no higher chimney -/
theorem gz_none {s : Int32} {k : Nat} (hk : k < 32) (h : s >>> (Int32.ofNat k &&& 31) = 0) {c : Nat} (h1 : k ≤ c) (h2 : c < 32) : gz_in s (Int32.ofNat c) = false := by
  rw [gz_bit _ h2]
  have e : s.toBitVec.sshiftRight k = 0#32 := by
    have := congrArg Int32.toBitVec h
    have e1 : (s >>> (Int32.ofNat k &&& 31)).toBitVec = s.toBitVec.sshiftRight k := by
      show (s.toBitVec.sshiftRight' ((Int32.ofNat k &&& 31).toBitVec.smod 32)) = _
      rw [gz_sh k hk]
      show (s.toBitVec.sshiftRight (BitVec.ofNat 32 k).toNat) = _
      rw [BitVec.toNat_ofNat, Nat.mod_eq_of_lt (by omega)]
    rw [e1] at this
    exact this
  have e2 := congrArg (fun x => BitVec.getLsbD x (c - k)) e
  simp only [BitVec.getLsbD_sshiftRight] at e2
  rw [show k + (c - k) = c by omega] at e2
  simp at e2
  have := e2 (by omega)
  rw [if_pos (by omega)] at this
  exact this
