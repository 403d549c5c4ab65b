/-! ===== the class: planOfFigures ===== -/
def gz_pf (row : Int32) (e h0 : Nat) : Nat → Int32
  | 0 => 0
  | k + 1 => if gz_fg row (e - 1 - k) = 1 then gz_pf row e h0 k ||| (1 <<< (Int32.ofNat (h0 + k) &&& 31)) else gz_pf row e h0 k
section
variable {V : gw_V} {n : Nat} {I : Nat → Nat → Int32} {J : Nat → Nat → Int64}
theorem c_planOfFigures (e h0 : Nat) (row : Int32) (he : e ≤ 8) (hh : I 12 3 = Int32.ofNat h0) (hT : ∀ b, b < 9 → I 2 b = Int32.ofNat (10 ^ b)) : gw_E V 100 (0, [(0, .ref 3), (1, .int (Int32.ofNat e)), (2, .int row)], [], gS n I J, 0, 0) (fun v w' => v = some (.int (gz_pf row e h0 e)) ∧ w' = gS n I J) := by
  have lp : ∀ (m k : Nat), m + k = e → ∀ x, x = gz_pf row e h0 k → gw_E V 100 (5, [(0, .ref 3), (1, .int (Int32.ofNat e)), (2, .int row), (3, .int x), (4, .int (Int32.ofNat k))], [], gS n I J, 0, 0) (fun v w' => v = some (.int (gz_pf row e h0 e)) ∧ w' = gS n I J) := by
    intro m
    induction m with
    | zero =>
      intro k hk x hx
      obtain rfl : k = e := by omega
      refine gs_iload (pc := 5) (gd gk_100 4 rfl) rfl ?_
      refine gs_iload_n (pc := 7) (gd gk_100 5 rfl) rfl ?_
      refine gs_icmp_ge (pc := 8) (gd gk_100 6 rfl) (fun c8 => ?_) (fun c8 => ?_)
      · replace c8 : k ≤ k := (zle (k := k) (m := k) (by omega) (by omega)).mp c8
        refine gs_iload_n (pc := 43) (gd gk_100 25 rfl) rfl ?_
        -- end 1: ireturn x, pc 44, locals [(0, .ref (3)), (1, .int (Int32.ofNat k)), (2, .int (row)), (3, .int (x)), (4, .int (Int32.ofNat k))]
        exact gs_iret (pc := 44) (gd gk_100 26 rfl) rfl (rfl) (Nat.zero_le _) (Nat.zero_le _) (⟨by rw [hx], rfl⟩)
      · replace c8 : ¬ (k ≤ k) := fun q9 => c8 ((zle (k := k) (m := k) (by omega) (by omega)).mpr q9)
        -- end 2: stop, pc 11, locals [(0, .ref (3)), (1, .int (Int32.ofNat k)), (2, .int (row)), (3, .int (x)), (4, .int (Int32.ofNat k))]
        exact absurd (Nat.le_refl _) c8
    | succ m ih =>
      intro k hk x hx
      refine gs_iload (pc := 5) (gd gk_100 4 rfl) rfl ?_
      refine gs_iload_n (pc := 7) (gd gk_100 5 rfl) rfl ?_
      refine gs_icmp_ge (pc := 8) (gd gk_100 6 rfl) (fun c8 => ?_) (fun c8 => ?_)
      · replace c8 : e ≤ k := (zle (k := e) (m := k) (by omega) (by omega)).mp c8
        refine gs_iload_n (pc := 43) (gd gk_100 25 rfl) rfl ?_
        -- end 1: ireturn x, pc 44, locals [(0, .ref (3)), (1, .int (Int32.ofNat e)), (2, .int (row)), (3, .int (x)), (4, .int (Int32.ofNat k))]
        exact absurd c8 (by omega)
      · replace c8 : ¬ (e ≤ k) := fun q9 => c8 ((zle (k := e) (m := k) (by omega) (by omega)).mpr q9)
        refine gs_iload_n (pc := 11) (gd gk_100 7 rfl) rfl ?_
        refine gs_iload_n (pc := 12) (gd gk_100 8 rfl) rfl ?_
        refine gs_iload (pc := 13) (gd gk_100 9 rfl) rfl ?_
        refine gs_callS (as := [.int (Int32.ofNat e), .int (row), .int (Int32.ofNat k)]) (pc := 15) (gd gk_100 10 rfl) (by decide) rfl rfl (Nat.le_of_ble_eq_true rfl) gq_100_99 (Nat.le_of_ble_eq_true rfl) (c_figureAt e k row he (by omega) hT) (fun r_15 w_15 q_15 => ?_)
        obtain ⟨rfl, rfl⟩ := q_15
        refine gs_iconst (pc := 18) (gd gk_100 11 rfl) (1) rfl ?_
        refine gs_icmp_ne (pc := 19) (gd gk_100 12 rfl) (fun c19 => ?_) (fun c19 => ?_)
        · refine gs_iinc (ls2 := fun v => [(0, .ref (3)), (1, .int (Int32.ofNat e)), (2, .int (row)), (3, .int (x)), (4, .int (v))]) (pc := 37) (gd gk_100 23 rfl) rfl (by rw [gL_100]; decide) (fun _ => rfl) (1) rfl (fun v4_1 hv4_1 => ?_)
          obtain rfl : v4_1 = Int32.ofNat (k + 1) := hv4_1.trans (by first | rfl | (simp only [Int32.ofNat_add, Int32.ofNat_mul]; rfl) | (simp only [Int32.ofNat_add, Int32.ofNat_mul]))
          refine gs_goto (pc := 40) (gd gk_100 24 rfl) ?_
          -- end 2: stop, pc 5, locals [(0, .ref (3)), (1, .int (Int32.ofNat e)), (2, .int (row)), (3, .int (x)), (4, .int (Int32.ofNat (k + 1)))]
          exact ih (k + 1) (by omega) x (by rw [hx]; show _ = (if _ then _ else _); rw [if_neg c19])
        · refine gs_iload_n (pc := 22) (gd gk_100 13 rfl) rfl ?_
          refine gs_iconst (pc := 23) (gd gk_100 14 rfl) (1) rfl ?_
          refine gs_aload_n (pc := 24) (gd gk_100 15 rfl) rfl ?_
          refine gs_getR (r := 12) (pc := 25) (gd gk_100 16 rfl) rfl rfl rfl (by decide) ?_
          refine gs_getI (pc := 28) (gd gk_100 17 rfl) rfl rfl ?_
          refine gs_as (Int32.ofNat h0) (hh) ?_
          refine gs_iload (pc := 31) (gd gk_100 18 rfl) rfl ?_
          refine gs_iadd (pc := 33) (gd gk_100 19 rfl) ?_
          refine gs_ishl (pc := 34) (gd gk_100 20 rfl) ?_
          refine gs_ior (pc := 35) (gd gk_100 21 rfl) ?_
          refine gs_istore_n (ls2 := fun v => [(0, .ref (3)), (1, .int (Int32.ofNat e)), (2, .int (row)), (3, .int (v)), (4, .int (Int32.ofNat k))]) (pc := 36) (gd gk_100 22 rfl) (by rw [gL_100]; decide) (fun _ => rfl) (fun v3_1 hv3_1 => ?_)
          refine gs_iinc (ls2 := fun v => [(0, .ref (3)), (1, .int (Int32.ofNat e)), (2, .int (row)), (3, .int (v3_1)), (4, .int (v))]) (pc := 37) (gd gk_100 23 rfl) rfl (by rw [gL_100]; decide) (fun _ => rfl) (1) rfl (fun v4_2 hv4_2 => ?_)
          obtain rfl : v4_2 = Int32.ofNat (k + 1) := hv4_2.trans (by first | rfl | (simp only [Int32.ofNat_add, Int32.ofNat_mul]; rfl) | (simp only [Int32.ofNat_add, Int32.ofNat_mul]))
          refine gs_goto (pc := 40) (gd gk_100 24 rfl) ?_
          -- end 3: stop, pc 5, locals [(0, .ref (3)), (1, .int (Int32.ofNat e)), (2, .int (row)), (3, .int (v3_1)), (4, .int (Int32.ofNat (k + 1)))]
          exact ih (k + 1) (by omega) _ (by rw [hv3_1, hx]; show _ = (if _ then _ else _); rw [if_pos c19, Int32.ofNat_add])
  refine gs_iconst (pc := 0) (gd gk_100 0 rfl) (0) rfl ?_
  refine gs_istore_n (ls2 := fun v => [(0, .ref (3)), (1, .int (Int32.ofNat e)), (2, .int (row)), (3, .int (v))]) (pc := 1) (gd gk_100 1 rfl) (by rw [gL_100]; decide) (fun _ => rfl) (fun v3_1 hv3_1 => ?_)
  obtain rfl : v3_1 = Int32.ofNat 0 := hv3_1.trans (by first | rfl | (simp only [Int32.ofNat_add, Int32.ofNat_mul]; rfl) | (simp only [Int32.ofNat_add, Int32.ofNat_mul]))
  refine gs_iconst (pc := 2) (gd gk_100 2 rfl) (0) rfl ?_
  refine gs_istore (ls2 := fun v => [(0, .ref (3)), (1, .int (Int32.ofNat e)), (2, .int (row)), (3, .int (Int32.ofNat 0)), (4, .int (v))]) (pc := 3) (gd gk_100 3 rfl) (by rw [gL_100]; decide) (fun _ => rfl) (fun v4_1 hv4_1 => ?_)
  obtain rfl : v4_1 = Int32.ofNat 0 := hv4_1.trans (by first | rfl | (simp only [Int32.ofNat_add, Int32.ofNat_mul]; rfl) | (simp only [Int32.ofNat_add, Int32.ofNat_mul]))
  -- end 1: stop, pc 5, locals [(0, .ref (3)), (1, .int (Int32.ofNat e)), (2, .int (row)), (3, .int (Int32.ofNat 0)), (4, .int (Int32.ofNat 0))]
  exact lp e 0 (by omega) _ rfl
end
