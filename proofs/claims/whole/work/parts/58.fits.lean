/-! ===== the class: fitsHead, fitsNose ===== -/
def gz_fh (t : Nat → Int32) (l p : Nat) : Bool := if p = 0 then decide (gz_la t l p = 83) else gz_rg (gz_la t l p - 48) (if p = 2 then 1 else 0) 9
def gz_fn (t : Nat → Int32) (l p q : Nat) : Bool := if q = 0 then decide (gz_la t l p = 78) else gz_rg (gz_la t l p - 48) (if q = 2 then 1 else 0) (if q = 4 then 3 else 9)
section
variable {V : gw_V} {n l : Nat} {I : Nat → Nat → Int32} {J : Nat → Nat → Int64}
theorem c_fitsHead (p : Nat) (hp : p < 1000) (hl : I 4 1 = Int32.ofNat l) (h8 : l ≤ 48) : gw_E V 45 (0, [(0, .ref 4), (1, .int (Int32.ofNat p))], [], gS n I J, 0, 0) (fun v w' => v = some (.int (gz_b (gz_fh (I 5) l p))) ∧ w' = gS n I J) := by
  refine gs_iload_n (pc := 0) (gd gk_45 0 rfl) rfl ?_
  refine gs_if_ne (pc := 1) (gd gk_45 1 rfl) (fun c1 => ?_) (fun c1 => ?_)
  · replace c1 : ¬ (p = 0) := fun q9 => c1 ((zeq (k := p) (m := 0) (by omega) (by omega)).mpr q9)
    refine gs_aload_n (pc := 20) (gd gk_45 11 rfl) rfl ?_
    refine gs_iload_n (pc := 21) (gd gk_45 12 rfl) rfl ?_
    refine gs_iload_n (pc := 22) (gd gk_45 13 rfl) rfl ?_
    refine gs_iconst (pc := 23) (gd gk_45 14 rfl) (2) rfl ?_
    refine gs_icmp_ne (pc := 24) (gd gk_45 15 rfl) (fun c24 => ?_) (fun c24 => ?_)
    · replace c24 : ¬ (p = 2) := fun q9 => c24 ((zeq (k := p) (m := 2) (by omega) (by omega)).mpr q9)
      refine gs_iconst (pc := 31) (gd gk_45 18 rfl) (0) rfl ?_
      refine gs_bipush (pc := 32) (gd gk_45 19 rfl) (9) rfl ?_
      refine gs_callV (as := [.int (Int32.ofNat p), .int (0), .int (9)]) (pc := 34) (gd gk_45 20 rfl) (by decide) rfl (by decide) rfl rfl (Nat.le_of_ble_eq_true rfl) gq_45_47 (Nat.le_of_ble_eq_true rfl) (c_isFigure p _ _ hp hl h8) (fun r_34 w_34 q_34 => ?_)
      obtain ⟨rfl, rfl⟩ := q_34
      -- end 1: ireturn (gz_b (gz_rg (gz_la (I 5) l p - 48) (0) (9))), pc 37, locals [(0, .ref (4)), (1, .int (Int32.ofNat p))]
      exact gs_iret (pc := 37) (gd gk_45 21 rfl) rfl (gz_b_nar _) (Nat.zero_le _) (Nat.zero_le _) (⟨by unfold gz_fh; rw [if_neg c1, if_neg c24], rfl⟩)
    · replace c24 : p = 2 := (zeq (k := p) (m := 2) (by omega) (by omega)).mp c24
      refine gs_iconst (pc := 27) (gd gk_45 16 rfl) (1) rfl ?_
      refine gs_goto (pc := 28) (gd gk_45 17 rfl) ?_
      refine gs_bipush (pc := 32) (gd gk_45 19 rfl) (9) rfl ?_
      refine gs_callV (as := [.int (Int32.ofNat p), .int (1), .int (9)]) (pc := 34) (gd gk_45 20 rfl) (by decide) rfl (by decide) rfl rfl (Nat.le_of_ble_eq_true rfl) gq_45_47 (Nat.le_of_ble_eq_true rfl) (c_isFigure p _ _ hp hl h8) (fun r_34 w_34 q_34 => ?_)
      obtain ⟨rfl, rfl⟩ := q_34
      -- end 2: ireturn (gz_b (gz_rg (gz_la (I 5) l p - 48) (1) (9))), pc 37, locals [(0, .ref (4)), (1, .int (Int32.ofNat p))]
      exact gs_iret (pc := 37) (gd gk_45 21 rfl) rfl (gz_b_nar _) (Nat.zero_le _) (Nat.zero_le _) (⟨by unfold gz_fh; rw [if_neg c1, if_pos c24], rfl⟩)
  · replace c1 : p = 0 := (zeq (k := p) (m := 0) (by omega) (by omega)).mp c1
    refine gs_aload_n (pc := 4) (gd gk_45 2 rfl) rfl ?_
    refine gs_iload_n (pc := 5) (gd gk_45 3 rfl) rfl ?_
    refine gs_callV (as := [.int (Int32.ofNat p)]) (pc := 6) (gd gk_45 4 rfl) (by decide) rfl (by decide) rfl rfl (Nat.le_of_ble_eq_true rfl) gq_45_39 (Nat.le_of_ble_eq_true rfl) (c_letterAt p hp hl h8) (fun r_6 w_6 q_6 => ?_)
    obtain ⟨rfl, rfl⟩ := q_6
    refine gs_bipush (pc := 9) (gd gk_45 5 rfl) (83) rfl ?_
    refine gs_icmp_ne (pc := 11) (gd gk_45 6 rfl) (fun c11 => ?_) (fun c11 => ?_)
    · refine gs_iconst (pc := 18) (gd gk_45 9 rfl) (0) rfl ?_
      -- end 3: ireturn 0, pc 19, locals [(0, .ref (4)), (1, .int (Int32.ofNat p))]
      exact gs_iret (pc := 19) (gd gk_45 10 rfl) rfl (rfl) (Nat.zero_le _) (Nat.zero_le _) (⟨by unfold gz_fh; rw [if_pos c1, decide_eq_false c11]; rfl, rfl⟩)
    · refine gs_iconst (pc := 14) (gd gk_45 7 rfl) (1) rfl ?_
      refine gs_goto (pc := 15) (gd gk_45 8 rfl) ?_
      -- end 4: ireturn 1, pc 19, locals [(0, .ref (4)), (1, .int (Int32.ofNat p))]
      exact gs_iret (pc := 19) (gd gk_45 10 rfl) rfl (rfl) (Nat.zero_le _) (Nat.zero_le _) (⟨by unfold gz_fh; rw [if_pos c1, decide_eq_true c11]; rfl, rfl⟩)
theorem c_fitsNose (p q : Nat) (hp : p < 1000) (hq : q < 5) (hl : I 4 1 = Int32.ofNat l) (h8 : l ≤ 48) : gw_E V 46 (0, [(0, .ref 4), (1, .int (Int32.ofNat p)), (2, .int (Int32.ofNat q))], [], gS n I J, 0, 0) (fun v w' => v = some (.int (gz_b (gz_fn (I 5) l p q))) ∧ w' = gS n I J) := by
  refine gs_iload_n (pc := 0) (gd gk_46 0 rfl) rfl ?_
  refine gs_if_ne (pc := 1) (gd gk_46 1 rfl) (fun c1 => ?_) (fun c1 => ?_)
  · replace c1 : ¬ (q = 0) := fun q9 => c1 ((zeq (k := q) (m := 0) (by omega) (by omega)).mpr q9)
    refine gs_aload_n (pc := 20) (gd gk_46 11 rfl) rfl ?_
    refine gs_iload_n (pc := 21) (gd gk_46 12 rfl) rfl ?_
    refine gs_iload_n (pc := 22) (gd gk_46 13 rfl) rfl ?_
    refine gs_iconst (pc := 23) (gd gk_46 14 rfl) (2) rfl ?_
    refine gs_icmp_ne (pc := 24) (gd gk_46 15 rfl) (fun c24 => ?_) (fun c24 => ?_)
    · replace c24 : ¬ (q = 2) := fun q9 => c24 ((zeq (k := q) (m := 2) (by omega) (by omega)).mpr q9)
      refine gs_iconst (pc := 31) (gd gk_46 18 rfl) (0) rfl ?_
      refine gs_iload_n (pc := 32) (gd gk_46 19 rfl) rfl ?_
      refine gs_iconst (pc := 33) (gd gk_46 20 rfl) (4) rfl ?_
      refine gs_icmp_ne (pc := 34) (gd gk_46 21 rfl) (fun c34 => ?_) (fun c34 => ?_)
      · replace c34 : ¬ (q = 4) := fun q9 => c34 ((zeq (k := q) (m := 4) (by omega) (by omega)).mpr q9)
        refine gs_bipush (pc := 41) (gd gk_46 24 rfl) (9) rfl ?_
        refine gs_callV (as := [.int (Int32.ofNat p), .int (0), .int (9)]) (pc := 43) (gd gk_46 25 rfl) (by decide) rfl (by decide) rfl rfl (Nat.le_of_ble_eq_true rfl) gq_46_47 (Nat.le_of_ble_eq_true rfl) (c_isFigure p _ _ hp hl h8) (fun r_43 w_43 q_43 => ?_)
        obtain ⟨rfl, rfl⟩ := q_43
        -- end 1: ireturn (gz_b (gz_rg (gz_la (I 5) l p - 48) (0) (9))), pc 46, locals [(0, .ref (4)), (1, .int (Int32.ofNat p)), (2, .int (Int32.ofNat q))]
        exact gs_iret (pc := 46) (gd gk_46 26 rfl) rfl (gz_b_nar _) (Nat.zero_le _) (Nat.zero_le _) (⟨by unfold gz_fn; rw [if_neg c1, if_neg c24, if_neg c34], rfl⟩)
      · replace c34 : q = 4 := (zeq (k := q) (m := 4) (by omega) (by omega)).mp c34
        refine gs_iconst (pc := 37) (gd gk_46 22 rfl) (3) rfl ?_
        refine gs_goto (pc := 38) (gd gk_46 23 rfl) ?_
        refine gs_callV (as := [.int (Int32.ofNat p), .int (0), .int (3)]) (pc := 43) (gd gk_46 25 rfl) (by decide) rfl (by decide) rfl rfl (Nat.le_of_ble_eq_true rfl) gq_46_47 (Nat.le_of_ble_eq_true rfl) (c_isFigure p _ _ hp hl h8) (fun r_43 w_43 q_43 => ?_)
        obtain ⟨rfl, rfl⟩ := q_43
        -- end 2: ireturn (gz_b (gz_rg (gz_la (I 5) l p - 48) (0) (3))), pc 46, locals [(0, .ref (4)), (1, .int (Int32.ofNat p)), (2, .int (Int32.ofNat q))]
        exact gs_iret (pc := 46) (gd gk_46 26 rfl) rfl (gz_b_nar _) (Nat.zero_le _) (Nat.zero_le _) (⟨by unfold gz_fn; rw [if_neg c1, if_neg c24, if_pos c34], rfl⟩)
    · replace c24 : q = 2 := (zeq (k := q) (m := 2) (by omega) (by omega)).mp c24
      refine gs_iconst (pc := 27) (gd gk_46 16 rfl) (1) rfl ?_
      refine gs_goto (pc := 28) (gd gk_46 17 rfl) ?_
      refine gs_iload_n (pc := 32) (gd gk_46 19 rfl) rfl ?_
      refine gs_iconst (pc := 33) (gd gk_46 20 rfl) (4) rfl ?_
      refine gs_icmp_ne (pc := 34) (gd gk_46 21 rfl) (fun c34 => ?_) (fun c34 => ?_)
      · replace c34 : ¬ (q = 4) := fun q9 => c34 ((zeq (k := q) (m := 4) (by omega) (by omega)).mpr q9)
        refine gs_bipush (pc := 41) (gd gk_46 24 rfl) (9) rfl ?_
        refine gs_callV (as := [.int (Int32.ofNat p), .int (1), .int (9)]) (pc := 43) (gd gk_46 25 rfl) (by decide) rfl (by decide) rfl rfl (Nat.le_of_ble_eq_true rfl) gq_46_47 (Nat.le_of_ble_eq_true rfl) (c_isFigure p _ _ hp hl h8) (fun r_43 w_43 q_43 => ?_)
        obtain ⟨rfl, rfl⟩ := q_43
        -- end 3: ireturn (gz_b (gz_rg (gz_la (I 5) l p - 48) (1) (9))), pc 46, locals [(0, .ref (4)), (1, .int (Int32.ofNat p)), (2, .int (Int32.ofNat q))]
        exact gs_iret (pc := 46) (gd gk_46 26 rfl) rfl (gz_b_nar _) (Nat.zero_le _) (Nat.zero_le _) (⟨by unfold gz_fn; rw [if_neg c1, if_pos c24, if_neg c34], rfl⟩)
      · replace c34 : q = 4 := (zeq (k := q) (m := 4) (by omega) (by omega)).mp c34
        refine gs_iconst (pc := 37) (gd gk_46 22 rfl) (3) rfl ?_
        refine gs_goto (pc := 38) (gd gk_46 23 rfl) ?_
        refine gs_callV (as := [.int (Int32.ofNat p), .int (1), .int (3)]) (pc := 43) (gd gk_46 25 rfl) (by decide) rfl (by decide) rfl rfl (Nat.le_of_ble_eq_true rfl) gq_46_47 (Nat.le_of_ble_eq_true rfl) (c_isFigure p _ _ hp hl h8) (fun r_43 w_43 q_43 => ?_)
        obtain ⟨rfl, rfl⟩ := q_43
        -- end 4: ireturn (gz_b (gz_rg (gz_la (I 5) l p - 48) (1) (3))), pc 46, locals [(0, .ref (4)), (1, .int (Int32.ofNat p)), (2, .int (Int32.ofNat q))]
        exact gs_iret (pc := 46) (gd gk_46 26 rfl) rfl (gz_b_nar _) (Nat.zero_le _) (Nat.zero_le _) (⟨by unfold gz_fn; rw [if_neg c1, if_pos c24, if_pos c34], rfl⟩)
  · replace c1 : q = 0 := (zeq (k := q) (m := 0) (by omega) (by omega)).mp c1
    refine gs_aload_n (pc := 4) (gd gk_46 2 rfl) rfl ?_
    refine gs_iload_n (pc := 5) (gd gk_46 3 rfl) rfl ?_
    refine gs_callV (as := [.int (Int32.ofNat p)]) (pc := 6) (gd gk_46 4 rfl) (by decide) rfl (by decide) rfl rfl (Nat.le_of_ble_eq_true rfl) gq_46_39 (Nat.le_of_ble_eq_true rfl) (c_letterAt p hp hl h8) (fun r_6 w_6 q_6 => ?_)
    obtain ⟨rfl, rfl⟩ := q_6
    refine gs_bipush (pc := 9) (gd gk_46 5 rfl) (78) rfl ?_
    refine gs_icmp_ne (pc := 11) (gd gk_46 6 rfl) (fun c11 => ?_) (fun c11 => ?_)
    · refine gs_iconst (pc := 18) (gd gk_46 9 rfl) (0) rfl ?_
      -- end 5: ireturn 0, pc 19, locals [(0, .ref (4)), (1, .int (Int32.ofNat p)), (2, .int (Int32.ofNat q))]
      exact gs_iret (pc := 19) (gd gk_46 10 rfl) rfl (rfl) (Nat.zero_le _) (Nat.zero_le _) (⟨by unfold gz_fn; rw [if_pos c1, decide_eq_false c11]; rfl, rfl⟩)
    · refine gs_iconst (pc := 14) (gd gk_46 7 rfl) (1) rfl ?_
      refine gs_goto (pc := 15) (gd gk_46 8 rfl) ?_
      -- end 6: ireturn 1, pc 19, locals [(0, .ref (4)), (1, .int (Int32.ofNat p)), (2, .int (Int32.ofNat q))]
      exact gs_iret (pc := 19) (gd gk_46 10 rfl) rfl (rfl) (Nat.zero_le _) (Nat.zero_le _) (⟨by unfold gz_fn; rw [if_pos c1, decide_eq_true c11]; rfl, rfl⟩)
end
