/-! ===== the plans in whatever order ===== -/
theorem gz_perm0 : ∀ W, W < 9 → (((List.range (2 ^ W)).map (fun k => gz_sn k 0 W W)).isPerm (List.range (2 ^ W))) = true := by decide +kernel
theorem gz_perm {W : Nat} (h : W < 9) : ((List.range (2 ^ W)).map (fun k => gz_sn k 0 W W)).Perm ((List.range (2 ^ W)).map (fun k => k)) := by
  rw [List.map_id']
  exact List.isPerm_iff.mp (gz_perm0 W h)
theorem gq_cn_l (ag : Nat → Bool) (f : Nat → Nat) : ∀ k, gq_cn ag f k = ((List.range k).map f).foldl (fun a p => if ag p then a + 1 else a) 0
  | 0 => rfl
  | k + 1 => by
    rw [List.range_succ, List.map_append, List.foldl_append, ← gq_cn_l ag f k]
    rfl
theorem gq_al_l (ag : Nat → Bool) (f : Nat → Nat) (M : Int32) : ∀ k, gq_al ag f M k = ((List.range k).map f).foldl (fun a p => if ag p then a &&& Int32.ofNat p else a) M
  | 0 => rfl
  | k + 1 => by
    rw [List.range_succ, List.map_append, List.foldl_append, ← gq_al_l ag f M k]
    rfl
theorem gq_no_l (ag : Nat → Bool) (f : Nat → Nat) (M : Int32) : ∀ k, gq_no ag f M k = ((List.range k).map f).foldl (fun a p => if ag p then a &&& (Int32.ofNat p ^^^ -1) else a) M
  | 0 => rfl
  | k + 1 => by
    rw [List.range_succ, List.map_append, List.foldl_append, ← gq_no_l ag f M k]
    rfl
theorem gq_cn_p (ag : Nat → Bool) {W : Nat} (h : W < 9) : gq_cn ag (fun k => gz_sn k 0 W W) (2 ^ W) = gq_cn ag (fun k => k) (2 ^ W) := by
  rw [gq_cn_l, gq_cn_l]
  exact (gz_perm h).foldl_eq' (fun x _ y _ z => by by_cases a : ag x <;> by_cases b : ag y <;> simp [a, b]) 0
theorem gq_al_p (ag : Nat → Bool) (M : Int32) {W : Nat} (h : W < 9) : gq_al ag (fun k => gz_sn k 0 W W) M (2 ^ W) = gq_al ag (fun k => k) M (2 ^ W) := by
  rw [gq_al_l, gq_al_l]
  exact (gz_perm h).foldl_eq' (fun x _ y _ z => by by_cases a : ag x <;> by_cases b : ag y <;> simp [a, b, Int32.and_assoc, Int32.and_comm (Int32.ofNat y)]) M
theorem gq_no_p (ag : Nat → Bool) (M : Int32) {W : Nat} (h : W < 9) : gq_no ag (fun k => gz_sn k 0 W W) M (2 ^ W) = gq_no ag (fun k => k) M (2 ^ W) := by
  rw [gq_no_l, gq_no_l]
  exact (gz_perm h).foldl_eq' (fun x _ y _ z => by by_cases a : ag x <;> by_cases b : ag y <;> simp [a, b, Int32.and_assoc, Int32.and_comm (~~~Int32.ofNat y)]) M
