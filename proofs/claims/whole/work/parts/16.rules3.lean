/-! ===== array rules by numbers ===== -/
theorem zvin0 {k n : Nat} {j : Int32} (hj : j = Int32.ofNat k) (h : k < n) (hn : n < 2 ^ 31) : vp_in j n ∧ j.toNatClampNeg = k := by
  subst hj
  have e : (Int32.ofNat k).toNatClampNeg = k := Int32.toNatClampNeg_ofNat_of_lt (by omega)
  refine ⟨vin ?_ ?_ hn, e⟩
  · rw [Int32.le_iff_toInt_le, Int32.toInt_ofNat_of_lt (by omega), Int32.toInt_zero]; omega
  · rw [Int32.lt_iff_toInt_lt, Int32.toInt_ofNat_of_lt (by omega), Int32.toInt_ofNat_of_lt hn]; omega
section GK
variable {V : gw_V} {i pc a b c : Nat} {ls : List (Nat × Value)} {st : List Value} {sh : List (Nat × Nat)} {I : Nat → Nat → Int32} {J : Nat → Nat → Int64} {F : Nat → Nat → Nat} {cu su : Nat} {Q : Option Value → gw_W → Prop}
theorem gs_ialoadK {j : Int32} (k N : Nat) (hd : gw_D i pc .iaload 1 b c) (ht : gw_T (sh, I, J, F) a = 12 ∨ gw_T (sh, I, J, F) a = 16 ∧ a < 3) (hN : gw_N (sh, I, J, F) a = N) (hN2 : N < 2 ^ 31) (hj : j = Int32.ofNat k) (hk : k < N) (kk : gw_E V i (pc + 1, ls, .int (I a k) :: st, (sh, I, J, F), cu, su) Q) : gw_E V i (pc, ls, .int j :: .ref a :: st, (sh, I, J, F), cu, su) Q := by
  obtain ⟨h1, h2⟩ := zvin0 hj hk hN2
  exact gs_iaload hd ht (by rw [hN]; exact h1) (by rw [h2]; exact kk)
theorem gs_baloadK {j : Int32} (k N : Nat) (hd : gw_D i pc .baload 1 b c) (ht : gw_T (sh, I, J, F) a = 13) (hN : gw_N (sh, I, J, F) a = N) (hN2 : N < 2 ^ 31) (hj : j = Int32.ofNat k) (hk : k < N) (kk : gw_E V i (pc + 1, ls, .int (I a k) :: st, (sh, I, J, F), cu, su) Q) : gw_E V i (pc, ls, .int j :: .ref a :: st, (sh, I, J, F), cu, su) Q := by
  obtain ⟨h1, h2⟩ := zvin0 hj hk hN2
  exact gs_baload hd ht (by rw [hN]; exact h1) (by rw [h2]; exact kk)
theorem gs_aaloadK {j : Int32} {r : Nat} (k N : Nat) (hd : gw_D i pc .aaload 1 b c) (ht : gw_T (sh, I, J, F) a = 14 ∨ gw_T (sh, I, J, F) a = 15) (hN : gw_N (sh, I, J, F) a = N) (hN2 : N < 2 ^ 31) (hj : j = Int32.ofNat k) (hk : k < N) (hr : F a k = r) (h0 : r ≠ 0) (kk : gw_E V i (pc + 1, ls, .ref r :: st, (sh, I, J, F), cu, su) Q) : gw_E V i (pc, ls, .int j :: .ref a :: st, (sh, I, J, F), cu, su) Q := by
  obtain ⟨h1, h2⟩ := zvin0 hj hk hN2
  exact gs_aaload hd ht (by rw [hN]; exact h1) (by rw [h2]; exact hr) h0 kk
theorem gs_iastoreK {j v : Int32} (k N : Nat) (hL : 145 ≤ sh.length) (hd : gw_D i pc .iastore 1 b c) (ht : gw_T (sh, I, J, F) a = 12) (hN : gw_N (sh, I, J, F) a = N) (hN2 : N < 2 ^ 31) (hj : j = Int32.ofNat k) (hk : k < N) (kk : ∀ I2, I2 = gw_u I a k v → gw_E V i (pc + 1, ls, st, (sh, I2, J, F), cu, su) Q) : gw_E V i (pc, ls, .int v :: .int j :: .ref a :: st, (sh, I, J, F), cu, su) Q := by
  obtain ⟨h1, h2⟩ := zvin0 hj hk hN2
  exact gs_iastore hL hd ht (by rw [hN]; exact h1) (by rw [h2]; exact kk)
theorem gs_bastoreK {j v : Int32} (k N : Nat) (hL : 145 ≤ sh.length) (hd : gw_D i pc .bastore 1 b c) (ht : gw_T (sh, I, J, F) a = 13) (hN : gw_N (sh, I, J, F) a = N) (hN2 : N < 2 ^ 31) (hj : j = Int32.ofNat k) (hk : k < N) (kk : ∀ I2, I2 = gw_u I a k (vp_nar .boolean v) → gw_E V i (pc + 1, ls, st, (sh, I2, J, F), cu, su) Q) : gw_E V i (pc, ls, .int v :: .int j :: .ref a :: st, (sh, I, J, F), cu, su) Q := by
  obtain ⟨h1, h2⟩ := zvin0 hj hk hN2
  exact gs_bastore hL hd ht (by rw [hN]; exact h1) (by rw [h2]; exact kk)
end GK
/-- a value by another name -/
theorem gs_as {V : gw_V} {i pc : Nat} {ls : List (Nat × Value)} {st : List Value} {w : gw_W} {cu su : Nat} {Q : Option Value → gw_W → Prop} {x : Int32} (y : Int32) (h : x = y) (k : gw_E V i (pc, ls, .int y :: st, w, cu, su) Q) : gw_E V i (pc, ls, .int x :: st, w, cu, su) Q := h ▸ k
/-! the rows of arrays of arrays, and the mornings, by their numbers -/
theorem gs_row {n a : Nat} {I : Nat → Nat → Int32} {J : Nat → Nat → Int64} {p : Nat × Nat} (h : gs_s0.getD a (99, 0) = p) : gw_T (gS n I J) (a + 1) = p.1 ∧ gw_N (gS n I J) (a + 1) = p.2 := by
  have e : (gs_s n).getD (a + 1) (99, 0) = p := by unfold gs_s; rw [List.getD_cons_succ]; exact h
  exact ⟨congrArg Prod.fst e, congrArg Prod.snd e⟩
theorem gs_tab58 : ∀ g, g < 9 → gs_s0.getD (58 + g) (99, 0) = (12, 10) := by decide +kernel
theorem gs_tab68 : ∀ g, g < 9 → gs_s0.getD (68 + g) (99, 0) = (12, 6) := by decide +kernel
theorem gs_tab86 : ∀ g, g < 9 → gs_s0.getD (86 + g) (99, 0) = (12, 48) := by decide +kernel
theorem gs_tab96 : ∀ g, g < 9 → gs_s0.getD (96 + g) (99, 0) = (12, 48) := by decide +kernel
theorem gs_tab106 : ∀ g, g < 9 → gs_s0.getD (106 + g) (99, 0) = (12, 9) := by decide +kernel
theorem gs_tab116 : ∀ g, g < 9 → gs_s0.getD (116 + g) (99, 0) = (12, 9) := by decide +kernel
section GT
variable {n : Nat} {I : Nat → Nat → Int32} {J : Nat → Nat → Int64}
theorem gt59 {g : Nat} (h : g < 9) : gw_T (gS n I J) (59 + g) = 12 ∧ gw_N (gS n I J) (59 + g) = 10 := by rw [show 59 + g = (58 + g) + 1 by omega]; exact gs_row (gs_tab58 g h)
theorem gt69 {g : Nat} (h : g < 9) : gw_T (gS n I J) (69 + g) = 12 ∧ gw_N (gS n I J) (69 + g) = 6 := by rw [show 69 + g = (68 + g) + 1 by omega]; exact gs_row (gs_tab68 g h)
theorem gt87 {g : Nat} (h : g < 9) : gw_T (gS n I J) (87 + g) = 12 ∧ gw_N (gS n I J) (87 + g) = 48 := by rw [show 87 + g = (86 + g) + 1 by omega]; exact gs_row (gs_tab86 g h)
theorem gt97 {g : Nat} (h : g < 9) : gw_T (gS n I J) (97 + g) = 12 ∧ gw_N (gS n I J) (97 + g) = 48 := by rw [show 97 + g = (96 + g) + 1 by omega]; exact gs_row (gs_tab96 g h)
theorem gt107 {g : Nat} (h : g < 9) : gw_T (gS n I J) (107 + g) = 12 ∧ gw_N (gS n I J) (107 + g) = 9 := by rw [show 107 + g = (106 + g) + 1 by omega]; exact gs_row (gs_tab106 g h)
theorem gt117 {g : Nat} (h : g < 9) : gw_T (gS n I J) (117 + g) = 12 ∧ gw_N (gS n I J) (117 + g) = 9 := by rw [show 117 + g = (116 + g) + 1 by omega]; exact gs_row (gs_tab116 g h)
end GT
