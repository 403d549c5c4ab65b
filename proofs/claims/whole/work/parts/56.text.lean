/-! ===== the class's text: its letters ===== -/
/-- the letter at a place of a text of l letters -/
def gz_la (t : Nat → Int32) (l p : Nat) : Int32 := if p < l then t p else 0
def gz_iw (x : Int32) : Bool := decide (x = 69 ∨ x = 87 ∨ x = 45)
def gz_wo (x : Int32) : Int32 := if x = 69 then 1 else if x = 87 then -1 else 0
section
variable {V : gw_V} {n l : Nat} {I : Nat → Nat → Int32} {J : Nat → Nat → Int64}
theorem c_isWind (x : Int32) : gw_E V 48 (0, [(0, .int x)], [], gS n I J, 0, 0) (fun v w' => v = some (.int (gz_b (gz_iw x))) ∧ w' = gS n I J) := by
  refine gs_iload_n (pc := 0) (gd gk_48 0 rfl) rfl ?_
  refine gs_bipush (pc := 1) (gd gk_48 1 rfl) (69) rfl ?_
  refine gs_icmp_eq (pc := 3) (gd gk_48 2 rfl) (fun c3 => ?_) (fun c3 => ?_)
  · refine gs_iconst (pc := 18) (gd gk_48 9 rfl) (1) rfl ?_
    refine gs_goto (pc := 19) (gd gk_48 10 rfl) ?_
    -- end 1: ireturn 1, pc 23, locals [(0, .int (x))]
    exact gs_iret (pc := 23) (gd gk_48 12 rfl) rfl (rfl) (Nat.zero_le _) (Nat.zero_le _) (⟨by simp [gz_iw, gz_b, c3], rfl⟩)
  · refine gs_iload_n (pc := 6) (gd gk_48 3 rfl) rfl ?_
    refine gs_bipush (pc := 7) (gd gk_48 4 rfl) (87) rfl ?_
    refine gs_icmp_eq (pc := 9) (gd gk_48 5 rfl) (fun c9 => ?_) (fun c9 => ?_)
    · refine gs_iconst (pc := 18) (gd gk_48 9 rfl) (1) rfl ?_
      refine gs_goto (pc := 19) (gd gk_48 10 rfl) ?_
      -- end 2: ireturn 1, pc 23, locals [(0, .int (x))]
      exact gs_iret (pc := 23) (gd gk_48 12 rfl) rfl (rfl) (Nat.zero_le _) (Nat.zero_le _) (⟨by simp [gz_iw, gz_b, c9], rfl⟩)
    · refine gs_iload_n (pc := 12) (gd gk_48 6 rfl) rfl ?_
      refine gs_bipush (pc := 13) (gd gk_48 7 rfl) (45) rfl ?_
      refine gs_icmp_ne (pc := 15) (gd gk_48 8 rfl) (fun c15 => ?_) (fun c15 => ?_)
      · refine gs_iconst (pc := 22) (gd gk_48 11 rfl) (0) rfl ?_
        -- end 3: ireturn 0, pc 23, locals [(0, .int (x))]
        exact gs_iret (pc := 23) (gd gk_48 12 rfl) rfl (rfl) (Nat.zero_le _) (Nat.zero_le _) (⟨by simp [gz_iw, gz_b, c3, c9, c15], rfl⟩)
      · refine gs_iconst (pc := 18) (gd gk_48 9 rfl) (1) rfl ?_
        refine gs_goto (pc := 19) (gd gk_48 10 rfl) ?_
        -- end 4: ireturn 1, pc 23, locals [(0, .int (x))]
        exact gs_iret (pc := 23) (gd gk_48 12 rfl) rfl (rfl) (Nat.zero_le _) (Nat.zero_le _) (⟨by simp [gz_iw, gz_b, c15], rfl⟩)
theorem m_isWind (x : Int32) : gw_E V 113 (0, [(0, .int x)], [], gS n I J, 0, 0) (fun v w' => v = some (.int (gz_b (gz_iw x))) ∧ w' = gS n I J) := by
  refine gs_iload_n (pc := 0) (gd gk_113 0 rfl) rfl ?_
  refine gs_bipush (pc := 1) (gd gk_113 1 rfl) (69) rfl ?_
  refine gs_icmp_eq (pc := 3) (gd gk_113 2 rfl) (fun c3 => ?_) (fun c3 => ?_)
  · refine gs_iconst (pc := 18) (gd gk_113 9 rfl) (1) rfl ?_
    refine gs_goto (pc := 19) (gd gk_113 10 rfl) ?_
    -- end 1: ireturn 1, pc 23, locals [(0, .int (x))]
    exact gs_iret (pc := 23) (gd gk_113 12 rfl) rfl (rfl) (Nat.zero_le _) (Nat.zero_le _) (⟨by simp [gz_iw, gz_b, c3], rfl⟩)
  · refine gs_iload_n (pc := 6) (gd gk_113 3 rfl) rfl ?_
    refine gs_bipush (pc := 7) (gd gk_113 4 rfl) (87) rfl ?_
    refine gs_icmp_eq (pc := 9) (gd gk_113 5 rfl) (fun c9 => ?_) (fun c9 => ?_)
    · refine gs_iconst (pc := 18) (gd gk_113 9 rfl) (1) rfl ?_
      refine gs_goto (pc := 19) (gd gk_113 10 rfl) ?_
      -- end 2: ireturn 1, pc 23, locals [(0, .int (x))]
      exact gs_iret (pc := 23) (gd gk_113 12 rfl) rfl (rfl) (Nat.zero_le _) (Nat.zero_le _) (⟨by simp [gz_iw, gz_b, c9], rfl⟩)
    · refine gs_iload_n (pc := 12) (gd gk_113 6 rfl) rfl ?_
      refine gs_bipush (pc := 13) (gd gk_113 7 rfl) (45) rfl ?_
      refine gs_icmp_ne (pc := 15) (gd gk_113 8 rfl) (fun c15 => ?_) (fun c15 => ?_)
      · refine gs_iconst (pc := 22) (gd gk_113 11 rfl) (0) rfl ?_
        -- end 3: ireturn 0, pc 23, locals [(0, .int (x))]
        exact gs_iret (pc := 23) (gd gk_113 12 rfl) rfl (rfl) (Nat.zero_le _) (Nat.zero_le _) (⟨by simp [gz_iw, gz_b, c3, c9, c15], rfl⟩)
      · refine gs_iconst (pc := 18) (gd gk_113 9 rfl) (1) rfl ?_
        refine gs_goto (pc := 19) (gd gk_113 10 rfl) ?_
        -- end 4: ireturn 1, pc 23, locals [(0, .int (x))]
        exact gs_iret (pc := 23) (gd gk_113 12 rfl) rfl (rfl) (Nat.zero_le _) (Nat.zero_le _) (⟨by simp [gz_iw, gz_b, c15], rfl⟩)
theorem c_windOf (x : Int32) : gw_E V 33 (0, [(0, .int x)], [], gS n I J, 0, 0) (fun v w' => v = some (.int (gz_wo x)) ∧ w' = gS n I J) := by
  refine gs_iload_n (pc := 0) (gd gk_33 0 rfl) rfl ?_
  refine gs_bipush (pc := 1) (gd gk_33 1 rfl) (69) rfl ?_
  refine gs_icmp_ne (pc := 3) (gd gk_33 2 rfl) (fun c3 => ?_) (fun c3 => ?_)
  · refine gs_iload_n (pc := 8) (gd gk_33 5 rfl) rfl ?_
    refine gs_bipush (pc := 9) (gd gk_33 6 rfl) (87) rfl ?_
    refine gs_icmp_ne (pc := 11) (gd gk_33 7 rfl) (fun c11 => ?_) (fun c11 => ?_)
    · refine gs_iconst (pc := 18) (gd gk_33 10 rfl) (0) rfl ?_
      -- end 1: ireturn 0, pc 19, locals [(0, .int (x))]
      exact gs_iret (pc := 19) (gd gk_33 11 rfl) rfl (rfl) (Nat.zero_le _) (Nat.zero_le _) (⟨by simp [gz_wo, c3, c11], rfl⟩)
    · refine gs_iconst (pc := 14) (gd gk_33 8 rfl) (-1) rfl ?_
      refine gs_goto (pc := 15) (gd gk_33 9 rfl) ?_
      -- end 2: ireturn (-1), pc 19, locals [(0, .int (x))]
      exact gs_iret (pc := 19) (gd gk_33 11 rfl) rfl (rfl) (Nat.zero_le _) (Nat.zero_le _) (⟨by simp [gz_wo, c3, c11], rfl⟩)
  · refine gs_iconst (pc := 6) (gd gk_33 3 rfl) (1) rfl ?_
    -- end 3: ireturn 1, pc 7, locals [(0, .int (x))]
    exact gs_iret (pc := 7) (gd gk_33 4 rfl) rfl (rfl) (Nat.zero_le _) (Nat.zero_le _) (⟨by simp [gz_wo, c3], rfl⟩)
theorem c_letterAt (p : Nat) (hp : p < 1000) (hl : I 4 1 = Int32.ofNat l) (h8 : l ≤ 48) : gw_E V 39 (0, [(0, .ref 4), (1, .int (Int32.ofNat p))], [], gS n I J, 0, 0) (fun v w' => v = some (.int (gz_la (I 5) l p)) ∧ w' = gS n I J) := by
  refine gs_iload_n (pc := 0) (gd gk_39 0 rfl) rfl ?_
  refine gs_if_lt (pc := 1) (gd gk_39 1 rfl) (fun c1 => ?_) (fun c1 => ?_)
  · replace c1 : p < 0 := (zlt (k := p) (m := 0) (by omega) (by omega)).mp c1
    refine gs_iconst (pc := 21) (gd gk_39 11 rfl) (0) rfl ?_
    -- end 1: ireturn 0, pc 22, locals [(0, .ref (4)), (1, .int (Int32.ofNat p))]
    exact absurd c1 (Nat.not_lt_zero _)
  · replace c1 : ¬ (p < 0) := fun q9 => c1 ((zlt (k := p) (m := 0) (by omega) (by omega)).mpr q9)
    refine gs_iload_n (pc := 4) (gd gk_39 2 rfl) rfl ?_
    refine gs_aload_n (pc := 5) (gd gk_39 3 rfl) rfl ?_
    refine gs_getI (pc := 6) (gd gk_39 4 rfl) rfl rfl ?_
    refine gs_as (Int32.ofNat l) (hl) ?_
    refine gs_icmp_ge (pc := 9) (gd gk_39 5 rfl) (fun c9 => ?_) (fun c9 => ?_)
    · replace c9 : l ≤ p := (zle (k := l) (m := p) (by omega) (by omega)).mp c9
      refine gs_iconst (pc := 21) (gd gk_39 11 rfl) (0) rfl ?_
      -- end 2: ireturn 0, pc 22, locals [(0, .ref (4)), (1, .int (Int32.ofNat p))]
      exact gs_iret (pc := 22) (gd gk_39 12 rfl) rfl (rfl) (Nat.zero_le _) (Nat.zero_le _) (⟨by unfold gz_la; rw [if_neg (by omega)], rfl⟩)
    · replace c9 : ¬ (l ≤ p) := fun q9 => c9 ((zle (k := l) (m := p) (by omega) (by omega)).mpr q9)
      refine gs_aload_n (pc := 12) (gd gk_39 6 rfl) rfl ?_
      refine gs_getR (r := 5) (pc := 13) (gd gk_39 7 rfl) rfl rfl rfl (by decide) ?_
      refine gs_iload_n (pc := 16) (gd gk_39 8 rfl) rfl ?_
      refine gs_ialoadK (p) (48) (pc := 17) (gd gk_39 9 rfl) (Or.inl rfl) rfl (by decide) (by first | rfl | (simp only [Int32.ofNat_add, Int32.ofNat_mul]; rfl) | (simp only [Int32.ofNat_add, Int32.ofNat_mul])) (by omega) ?_
      refine gs_goto (pc := 18) (gd gk_39 10 rfl) ?_
      -- end 3: ireturn (I 5 p), pc 22, locals [(0, .ref (4)), (1, .int (Int32.ofNat p))]
      exact gs_iret (pc := 22) (gd gk_39 12 rfl) rfl (rfl) (Nat.zero_le _) (Nat.zero_le _) (⟨by unfold gz_la; rw [if_pos (by omega)], rfl⟩)
theorem c_figure (p : Nat) (hp : p < 1000) (hl : I 4 1 = Int32.ofNat l) (h8 : l ≤ 48) : gw_E V 40 (0, [(0, .ref 4), (1, .int (Int32.ofNat p))], [], gS n I J, 0, 0) (fun v w' => v = some (.int (gz_la (I 5) l p - 48)) ∧ w' = gS n I J) := by
  refine gs_aload_n (pc := 0) (gd gk_40 0 rfl) rfl ?_
  refine gs_iload_n (pc := 1) (gd gk_40 1 rfl) rfl ?_
  refine gs_callV (as := [.int (Int32.ofNat p)]) (pc := 2) (gd gk_40 2 rfl) (by decide) rfl (by decide) rfl rfl (Nat.le_of_ble_eq_true rfl) gq_40_39 (Nat.le_of_ble_eq_true rfl) (c_letterAt p hp hl h8) (fun r_2 w_2 q_2 => ?_)
  obtain ⟨rfl, rfl⟩ := q_2
  refine gs_bipush (pc := 5) (gd gk_40 3 rfl) (48) rfl ?_
  refine gs_isub (pc := 7) (gd gk_40 4 rfl) ?_
  -- end 1: ireturn ((gz_la (I 5) l p) - 48), pc 8, locals [(0, .ref (4)), (1, .int (Int32.ofNat p))]
  exact gs_iret (pc := 8) (gd gk_40 5 rfl) rfl (rfl) (Nat.zero_le _) (Nat.zero_le _) (⟨rfl, rfl⟩)
theorem c_isFigure (p : Nat) (a b : Int32) (hp : p < 1000) (hl : I 4 1 = Int32.ofNat l) (h8 : l ≤ 48) : gw_E V 47 (0, [(0, .ref 4), (1, .int (Int32.ofNat p)), (2, .int a), (3, .int b)], [], gS n I J, 0, 0) (fun v w' => v = some (.int (gz_b (gz_rg (gz_la (I 5) l p - 48) a b))) ∧ w' = gS n I J) := by
  refine gs_aload_n (pc := 0) (gd gk_47 0 rfl) rfl ?_
  refine gs_iload_n (pc := 1) (gd gk_47 1 rfl) rfl ?_
  refine gs_callV (as := [.int (Int32.ofNat p)]) (pc := 2) (gd gk_47 2 rfl) (by decide) rfl (by decide) rfl rfl (Nat.le_of_ble_eq_true rfl) gq_47_40 (Nat.le_of_ble_eq_true rfl) (c_figure p hp hl h8) (fun r_2 w_2 q_2 => ?_)
  obtain ⟨rfl, rfl⟩ := q_2
  refine gs_iload_n (pc := 5) (gd gk_47 3 rfl) rfl ?_
  refine gs_icmp_lt (pc := 6) (gd gk_47 4 rfl) (fun c6 => ?_) (fun c6 => ?_)
  · refine gs_iconst (pc := 22) (gd gk_47 12 rfl) (0) rfl ?_
    -- end 1: ireturn 0, pc 23, locals [(0, .ref (4)), (1, .int (Int32.ofNat p)), (2, .int (a)), (3, .int (b))]
    exact gs_iret (pc := 23) (gd gk_47 13 rfl) rfl (rfl) (Nat.zero_le _) (Nat.zero_le _) (⟨by rw [gz_rg_f.mpr (fun q => absurd q.1 (Int32.not_le.mpr c6))]; rfl, rfl⟩)
  · refine gs_aload_n (pc := 9) (gd gk_47 5 rfl) rfl ?_
    refine gs_iload_n (pc := 10) (gd gk_47 6 rfl) rfl ?_
    refine gs_callV (as := [.int (Int32.ofNat p)]) (pc := 11) (gd gk_47 7 rfl) (by decide) rfl (by decide) rfl rfl (Nat.le_of_ble_eq_true rfl) gq_47_40 (Nat.le_of_ble_eq_true rfl) (c_figure p hp hl h8) (fun r_11 w_11 q_11 => ?_)
    obtain ⟨rfl, rfl⟩ := q_11
    refine gs_iload_n (pc := 14) (gd gk_47 8 rfl) rfl ?_
    refine gs_icmp_gt (pc := 15) (gd gk_47 9 rfl) (fun c15 => ?_) (fun c15 => ?_)
    · refine gs_iconst (pc := 22) (gd gk_47 12 rfl) (0) rfl ?_
      -- end 2: ireturn 0, pc 23, locals [(0, .ref (4)), (1, .int (Int32.ofNat p)), (2, .int (a)), (3, .int (b))]
      exact gs_iret (pc := 23) (gd gk_47 13 rfl) rfl (rfl) (Nat.zero_le _) (Nat.zero_le _) (⟨by rw [gz_rg_f.mpr (fun q => absurd q.2 (Int32.not_le.mpr c15))]; rfl, rfl⟩)
    · refine gs_iconst (pc := 18) (gd gk_47 10 rfl) (1) rfl ?_
      refine gs_goto (pc := 19) (gd gk_47 11 rfl) ?_
      -- end 3: ireturn 1, pc 23, locals [(0, .ref (4)), (1, .int (Int32.ofNat p)), (2, .int (a)), (3, .int (b))]
      exact gs_iret (pc := 23) (gd gk_47 13 rfl) rfl (rfl) (Nat.zero_le _) (Nat.zero_le _) (⟨by rw [gz_rg_t.mpr ⟨Int32.not_lt.mp c6, Int32.not_lt.mp c15⟩]; rfl, rfl⟩)
end
