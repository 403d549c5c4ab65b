/-! ===== small methods that touch no cell ===== -/
def gz_b (b : Bool) : Int32 := match b with | true => 1 | false => 0
/-- an int's bit -/
def gz_in (s k : Int32) : Bool := decide ((s >>> (k &&& 31)) &&& 1 = 1)
/-- between two -/
def gz_rg (v a b : Int32) : Bool := decide (a ≤ v ∧ v ≤ b)
theorem c_in {V : gw_V} {w : gw_W} (s k : Int32) : gw_E V 96 (0, [(0, .int s), (1, .int k)], [], w, 0, 0) (fun v w' => v = some (.int (gz_b (gz_in s k))) ∧ w' = w) := by
  refine gs_iload_n (pc := 0) (gd gk_96 0 rfl) rfl ?_
  refine gs_iload_n (pc := 1) (gd gk_96 1 rfl) rfl ?_
  refine gs_ishr (pc := 2) (gd gk_96 2 rfl) ?_
  refine gs_iconst (pc := 3) (gd gk_96 3 rfl) (1) rfl ?_
  refine gs_iand (pc := 4) (gd gk_96 4 rfl) ?_
  refine gs_iconst (pc := 5) (gd gk_96 5 rfl) (1) rfl ?_
  refine gs_icmp_ne (pc := 6) (gd gk_96 6 rfl) (fun c6 => ?_) (fun c6 => ?_)
  · refine gs_iconst (pc := 13) (gd gk_96 9 rfl) (0) rfl ?_
    -- end 1: ireturn 0, pc 14, locals [(0, .int (s)), (1, .int (k))]
    exact gs_iret (pc := 14) (gd gk_96 10 rfl) rfl (rfl) (Nat.zero_le _) (Nat.zero_le _) (⟨by simp [gz_in, c6, gz_b], rfl⟩)
  · refine gs_iconst (pc := 9) (gd gk_96 7 rfl) (1) rfl ?_
    refine gs_goto (pc := 10) (gd gk_96 8 rfl) ?_
    -- end 2: ireturn 1, pc 14, locals [(0, .int (s)), (1, .int (k))]
    exact gs_iret (pc := 14) (gd gk_96 10 rfl) rfl (rfl) (Nat.zero_le _) (Nat.zero_le _) (⟨by simp [gz_in, c6, gz_b], rfl⟩)
