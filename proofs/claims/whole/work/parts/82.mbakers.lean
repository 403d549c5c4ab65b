/-! ===== two bakers: the reference's isRest, bakers ===== -/
def gq_cq (h0 L h : Nat) : Nat := min L (h - h0) + (if h = 10 then 1 else 0)
theorem gq_cq_t {h0 L h : Nat} (h8 : h0 + L ≤ 8) (h9 : h ≤ 9) (hc : gq_ch h0 (h0 + L) h = true) : gq_hr h0 L (gq_cq h0 L h) = h ∧ gq_cq h0 L h ≤ L ∧ gq_cq h0 L (h + 1) = gq_cq h0 L h + 1 ∧ gq_ix h0 L h = gq_cq h0 L h := by
  simp [gq_ch] at hc
  unfold gq_hr gq_cq gq_ix
  rcases hc with e | e
  · subst e
    rw [if_neg (show ¬ 9 = 10 by omega), if_pos (show 9 + 1 = 10 by omega), if_pos rfl]
    refine ⟨?_, by omega, by omega, by omega⟩
    rw [if_neg (by omega)]
  · rw [if_neg (show ¬ h = 10 by omega), if_neg (show ¬ h + 1 = 10 by omega), if_neg (show ¬ h = 9 by omega)]
    refine ⟨?_, by omega, by omega, by omega⟩
    rw [if_pos (by omega)]; omega
theorem gq_cq_f {h0 L h : Nat} (h8 : h0 + L ≤ 8) (h9 : h ≤ 9) (hc : gq_ch h0 (h0 + L) h = false) : gq_cq h0 L (h + 1) = gq_cq h0 L h := by
  simp [gq_ch] at hc
  unfold gq_cq
  rw [if_neg (show ¬ h = 10 by omega), if_neg (show ¬ h + 1 = 10 by omega)]
  omega
theorem gq_cq_10 {h0 L : Nat} (h8 : h0 + L ≤ 8) : gq_cq h0 L 10 = L + 1 ∧ gq_cq h0 L 0 = 0 := by
  unfold gq_cq
  rw [if_pos rfl, if_neg (by omega)]
  omega
theorem gz_d10 : ∀ k, k < 100 → Int32.ofNat k / 10 = Int32.ofNat (k / 10) ∧ Int32.ofNat k - Int32.ofNat k / 10 * 10 = Int32.ofNat (k % 10) ∧ Int32.ofNat k - Int32.ofNat (k / 10) * 10 = Int32.ofNat (k % 10) := by decide +kernel
abbrev gq_pr (h0 W k : Nat) : Bool := gq_ch h0 W (k / 10) && gq_ch h0 W (k % 10)
theorem gz_prs0 : ∀ h0, h0 < 9 → ∀ L, L < 9 → h0 + L < 9 → (List.range 100).filter (gq_pr h0 (h0 + L)) = gq_uto h0 L (L + 1) := by decide +kernel
section
variable {V : gw_V} {n W N h0 L bc c2 : Nat} {I : Nat → Nat → Int32} {J : Nat → Nat → Int64}
theorem m_isRest (F G : Nat → Nat → Int32) (a b : Nat) (ha : a ≤ L) (hb : b ≤ L) (hF : ∀ c, c ≤ L → ∀ d, d ≤ L → I 141 (10 * gq_hr h0 L c + gq_hr h0 L d) = F c d ∧ I 142 (10 * gq_hr h0 L c + gq_hr h0 L d) = G c d) (hn : gm_now I W N h0 L bc) : gw_E V 156 (0, [(0, .ref 126), (1, .int (Int32.ofNat (gq_hr h0 L a))), (2, .int (Int32.ofNat (gq_hr h0 L b)))], [], gS n I J, 0, 0) (fun v w' => v = some (.int (gz_b (gq_rt F G a b (L + 1)))) ∧ w' = gS n I J) := by
  have hW8 := hn.1.2.1
  have hW := hn.2.2.1
  have h8 : h0 + L ≤ 8 := by omega
  have hra := gq_hr_9 (h0 := h0) (L := L) (a := a) h8
  have hrb := gq_hr_9 (h0 := h0) (L := L) (a := b) h8
  have hab := hF a ha b hb
  have lp : ∀ (r k : Nat), r + k = 10 → gw_E V 156 (5, [(0, .ref 126), (1, .int (Int32.ofNat (gq_hr h0 L a))), (2, .int (Int32.ofNat (gq_hr h0 L b))), (3, .int (gz_b (gq_rt F G a b (gq_cq h0 L k)))), (4, .int (Int32.ofNat k))], [], gS n I J, 0, 0) (fun v w' => v = some (.int (gz_b (gq_rt F G a b (L + 1)))) ∧ w' = gS n I J) := by
    intro r
    induction r with
    | zero =>
      intro k hk
      obtain rfl : k = 10 := by omega
      refine gs_iload (pc := 5) (gd gk_156 4 rfl) rfl ?_
      refine gs_bipush (pc := 7) (gd gk_156 5 rfl) (10) rfl ?_
      refine gs_icmp_ge (pc := 9) (gd gk_156 6 rfl) (fun c9 => ?_) (fun c9 => ?_)
      · replace c9 : 10 ≤ 10 := (zle (k := 10) (m := 10) (by omega) (by omega)).mp c9
        refine gs_iload_n (pc := 89) (gd gk_156 53 rfl) rfl ?_
        -- end 1: ireturn gz_b (gq_rt F G a b (gq_cq h0 L 10)), pc 90, locals [(0, .ref (126)), (1, .int (Int32.ofNat (gq_hr h0 L a))), (2, .int (Int32.ofNat (gq_hr h0 L b))), (3, .int (gz_b (gq_rt F G a b (gq_cq h0 L 10)))), (4, .int (Int32.ofNat 10))]
        exact gs_iret (pc := 90) (gd gk_156 54 rfl) rfl (gz_b_nar _) (Nat.zero_le _) (Nat.zero_le _) (⟨by rw [(gq_cq_10 h8).1], rfl⟩)
      · replace c9 : ¬ (10 ≤ 10) := fun q9 => c9 ((zle (k := 10) (m := 10) (by omega) (by omega)).mpr q9)
        -- end 2: stop, pc 12, locals [(0, .ref (126)), (1, .int (Int32.ofNat (gq_hr h0 L a))), (2, .int (Int32.ofNat (gq_hr h0 L b))), (3, .int (gz_b (gq_rt F G a b (gq_cq h0 L 10)))), (4, .int (Int32.ofNat 10))]
        exact absurd (Nat.le_refl _) c9
    | succ r ih =>
      intro k hk
      have next : ∀ bb : Bool, bb = gq_rt F G a b (gq_cq h0 L (k + 1)) → gw_E V 156 (82, [(0, .ref 126), (1, .int (Int32.ofNat (gq_hr h0 L a))), (2, .int (Int32.ofNat (gq_hr h0 L b))), (3, .int (gz_b (gq_rt F G a b (gq_cq h0 L k)))), (4, .int (Int32.ofNat k))], [.int (gz_b bb)], gS n I J, 0, 0) (fun v w' => v = some (.int (gz_b (gq_rt F G a b (L + 1)))) ∧ w' = gS n I J) := by
        intro bb hbb
        subst hbb
        refine gs_istore_n (ls2 := fun v => [(0, .ref (126)), (1, .int (Int32.ofNat (gq_hr h0 L a))), (2, .int (Int32.ofNat (gq_hr h0 L b))), (3, .int (v)), (4, .int (Int32.ofNat k))]) (pc := 82) (gd gk_156 50 rfl) (by rw [gL_156]; decide) (fun _ => rfl) (fun v3_1 hv3_1 => ?_)
        refine gs_iinc (ls2 := fun v => [(0, .ref (126)), (1, .int (Int32.ofNat (gq_hr h0 L a))), (2, .int (Int32.ofNat (gq_hr h0 L b))), (3, .int (v3_1)), (4, .int (v))]) (pc := 83) (gd gk_156 51 rfl) rfl (by rw [gL_156]; decide) (fun _ => rfl) (1) rfl (fun v4_1 hv4_1 => ?_)
        obtain rfl : v4_1 = Int32.ofNat (k + 1) := hv4_1.trans (by first | rfl | (simp only [Int32.ofNat_add, Int32.ofNat_mul]; rfl) | (simp only [Int32.ofNat_add, Int32.ofNat_mul]))
        refine gs_goto (pc := 86) (gd gk_156 52 rfl) ?_
        -- end 1: stop, pc 5, locals [(0, .ref (126)), (1, .int (Int32.ofNat (gq_hr h0 L a))), (2, .int (Int32.ofNat (gq_hr h0 L b))), (3, .int (v3_1)), (4, .int (Int32.ofNat (k + 1)))]
        subst hv3_1
        exact ih (k + 1) (by omega)
      by_cases hc : gq_ch h0 W k = true
      · have hq := gq_cq_t (L := L) h8 (show k ≤ 9 by omega) (by rw [hW]; exact hc)
        generalize hcc : gq_cq h0 L k = cc at hq
        have f1 := hF cc hq.2.1 b hb
        have f2 := hF a ha cc hq.2.1
        rw [hq.1] at f1 f2
        rw [hcc] at next
        have hst : gq_rt F G a b (gq_cq h0 L (k + 1)) = (gq_rt F G a b cc && (decide (F cc b ≤ F a b) && decide (G a cc ≤ G a b))) := by rw [hq.2.2.1]; rfl
        refine gs_iload (pc := 5) (gd gk_156 4 rfl) rfl ?_
        refine gs_bipush (pc := 7) (gd gk_156 5 rfl) (10) rfl ?_
        refine gs_icmp_ge (pc := 9) (gd gk_156 6 rfl) (fun c9 => ?_) (fun c9 => ?_)
        · replace c9 : 10 ≤ k := (zle (k := 10) (m := k) (by omega) (by omega)).mp c9
          -- end 1: stop, pc 89, locals [(0, .ref (126)), (1, .int (Int32.ofNat (gq_hr h0 L a))), (2, .int (Int32.ofNat (gq_hr h0 L b))), (3, .int (gz_b (gq_rt F G a b cc))), (4, .int (Int32.ofNat k))]
          exact absurd c9 (by omega)
        · replace c9 : ¬ (10 ≤ k) := fun q9 => c9 ((zle (k := 10) (m := k) (by omega) (by omega)).mpr q9)
          refine gs_aload_n (pc := 12) (gd gk_156 7 rfl) rfl ?_
          refine gs_iload (pc := 13) (gd gk_156 8 rfl) rfl ?_
          refine gs_callV (as := [.int (Int32.ofNat k)]) (pc := 15) (gd gk_156 9 rfl) (by decide) rfl (by decide) rfl rfl (Nat.le_of_ble_eq_true rfl) gq_156_155 (Nat.le_of_ble_eq_true rfl) (m_isChoice k (by omega) hn) (fun r_15 w_15 q_15 => ?_)
          obtain ⟨rfl, rfl⟩ := q_15
          refine gs_if_eq (pc := 18) (gd gk_156 10 rfl) (fun c18 => ?_) (fun c18 => ?_)
          · -- end 2: stop, pc 83, locals [(0, .ref (126)), (1, .int (Int32.ofNat (gq_hr h0 L a))), (2, .int (Int32.ofNat (gq_hr h0 L b))), (3, .int (gz_b (gq_rt F G a b cc))), (4, .int (Int32.ofNat k))]
            rw [hc] at c18
            exact absurd c18 (by decide)
          · refine gs_iload_n (pc := 21) (gd gk_156 11 rfl) rfl ?_
            refine gs_if_eq (pc := 22) (gd gk_156 12 rfl) (fun c22 => ?_) (fun c22 => ?_)
            · refine gs_iconst (pc := 81) (gd gk_156 49 rfl) (0) rfl ?_
              -- end 3: stop, pc 82, locals [(0, .ref (126)), (1, .int (Int32.ofNat (gq_hr h0 L a))), (2, .int (Int32.ofNat (gq_hr h0 L b))), (3, .int (gz_b (gq_rt F G a b cc))), (4, .int (Int32.ofNat k))]
              exact next false (by rw [hst, gz_b_eq.mp c22]; rfl)
            · refine gs_aload_n (pc := 25) (gd gk_156 13 rfl) rfl ?_
              refine gs_getR (r := 141) (pc := 26) (gd gk_156 14 rfl) rfl rfl rfl (by decide) ?_
              refine gs_bipush (pc := 29) (gd gk_156 15 rfl) (10) rfl ?_
              refine gs_iload (pc := 31) (gd gk_156 16 rfl) rfl ?_
              refine gs_imul (pc := 33) (gd gk_156 17 rfl) ?_
              refine gs_iload_n (pc := 34) (gd gk_156 18 rfl) rfl ?_
              refine gs_iadd (pc := 35) (gd gk_156 19 rfl) ?_
              refine gs_ialoadK (((10 * k) + (gq_hr h0 L b))) (100) (pc := 36) (gd gk_156 20 rfl) (Or.inl rfl) rfl (by decide) (by first | rfl | (simp only [Int32.ofNat_add, Int32.ofNat_mul]; rfl) | (simp only [Int32.ofNat_add, Int32.ofNat_mul])) (by omega) ?_
              refine gs_aload_n (pc := 37) (gd gk_156 21 rfl) rfl ?_
              refine gs_getR (r := 141) (pc := 38) (gd gk_156 22 rfl) rfl rfl rfl (by decide) ?_
              refine gs_bipush (pc := 41) (gd gk_156 23 rfl) (10) rfl ?_
              refine gs_iload_n (pc := 43) (gd gk_156 24 rfl) rfl ?_
              refine gs_imul (pc := 44) (gd gk_156 25 rfl) ?_
              refine gs_iload_n (pc := 45) (gd gk_156 26 rfl) rfl ?_
              refine gs_iadd (pc := 46) (gd gk_156 27 rfl) ?_
              refine gs_ialoadK (((10 * (gq_hr h0 L a)) + (gq_hr h0 L b))) (100) (pc := 47) (gd gk_156 28 rfl) (Or.inl rfl) rfl (by decide) (by first | rfl | (simp only [Int32.ofNat_add, Int32.ofNat_mul]; rfl) | (simp only [Int32.ofNat_add, Int32.ofNat_mul])) (by omega) ?_
              refine gs_icmp_gt (pc := 48) (gd gk_156 29 rfl) (fun c48 => ?_) (fun c48 => ?_)
              · refine gs_iconst (pc := 81) (gd gk_156 49 rfl) (0) rfl ?_
                -- end 4: stop, pc 82, locals [(0, .ref (126)), (1, .int (Int32.ofNat (gq_hr h0 L a))), (2, .int (Int32.ofNat (gq_hr h0 L b))), (3, .int (gz_b (gq_rt F G a b cc))), (4, .int (Int32.ofNat k))]
                rw [f1.1, hab.1] at c48
                exact next false (by rw [hst, decide_eq_false (Int32.not_le.mpr c48), Bool.false_and, Bool.and_false])
              · refine gs_aload_n (pc := 51) (gd gk_156 30 rfl) rfl ?_
                refine gs_getR (r := 142) (pc := 52) (gd gk_156 31 rfl) rfl rfl rfl (by decide) ?_
                refine gs_bipush (pc := 55) (gd gk_156 32 rfl) (10) rfl ?_
                refine gs_iload_n (pc := 57) (gd gk_156 33 rfl) rfl ?_
                refine gs_imul (pc := 58) (gd gk_156 34 rfl) ?_
                refine gs_iload (pc := 59) (gd gk_156 35 rfl) rfl ?_
                refine gs_iadd (pc := 61) (gd gk_156 36 rfl) ?_
                refine gs_ialoadK (((10 * (gq_hr h0 L a)) + k)) (100) (pc := 62) (gd gk_156 37 rfl) (Or.inl rfl) rfl (by decide) (by first | rfl | (simp only [Int32.ofNat_add, Int32.ofNat_mul]; rfl) | (simp only [Int32.ofNat_add, Int32.ofNat_mul])) (by omega) ?_
                refine gs_aload_n (pc := 63) (gd gk_156 38 rfl) rfl ?_
                refine gs_getR (r := 142) (pc := 64) (gd gk_156 39 rfl) rfl rfl rfl (by decide) ?_
                refine gs_bipush (pc := 67) (gd gk_156 40 rfl) (10) rfl ?_
                refine gs_iload_n (pc := 69) (gd gk_156 41 rfl) rfl ?_
                refine gs_imul (pc := 70) (gd gk_156 42 rfl) ?_
                refine gs_iload_n (pc := 71) (gd gk_156 43 rfl) rfl ?_
                refine gs_iadd (pc := 72) (gd gk_156 44 rfl) ?_
                refine gs_ialoadK (((10 * (gq_hr h0 L a)) + (gq_hr h0 L b))) (100) (pc := 73) (gd gk_156 45 rfl) (Or.inl rfl) rfl (by decide) (by first | rfl | (simp only [Int32.ofNat_add, Int32.ofNat_mul]; rfl) | (simp only [Int32.ofNat_add, Int32.ofNat_mul])) (by omega) ?_
                refine gs_icmp_gt (pc := 74) (gd gk_156 46 rfl) (fun c74 => ?_) (fun c74 => ?_)
                · refine gs_iconst (pc := 81) (gd gk_156 49 rfl) (0) rfl ?_
                  -- end 5: stop, pc 82, locals [(0, .ref (126)), (1, .int (Int32.ofNat (gq_hr h0 L a))), (2, .int (Int32.ofNat (gq_hr h0 L b))), (3, .int (gz_b (gq_rt F G a b cc))), (4, .int (Int32.ofNat k))]
                  rw [f2.2, hab.2] at c74
                  exact next false (by rw [hst, decide_eq_false (Int32.not_le.mpr c74), Bool.and_false, Bool.and_false])
                · refine gs_iconst (pc := 77) (gd gk_156 47 rfl) (1) rfl ?_
                  refine gs_goto (pc := 78) (gd gk_156 48 rfl) ?_
                  -- end 6: stop, pc 82, locals [(0, .ref (126)), (1, .int (Int32.ofNat (gq_hr h0 L a))), (2, .int (Int32.ofNat (gq_hr h0 L b))), (3, .int (gz_b (gq_rt F G a b cc))), (4, .int (Int32.ofNat k))]
                  rw [f1.1, hab.1] at c48
                  rw [f2.2, hab.2] at c74
                  exact next true (by rw [hst, gz_b_ne.mp c22, decide_eq_true (Int32.not_lt.mp c48), decide_eq_true (Int32.not_lt.mp c74)]; rfl)
      · have hc : gq_ch h0 W k = false := by simpa using hc
        have hq := gq_cq_f (L := L) h8 (show k ≤ 9 by omega) (by rw [hW]; exact hc)
        refine gs_iload (pc := 5) (gd gk_156 4 rfl) rfl ?_
        refine gs_bipush (pc := 7) (gd gk_156 5 rfl) (10) rfl ?_
        refine gs_icmp_ge (pc := 9) (gd gk_156 6 rfl) (fun c9 => ?_) (fun c9 => ?_)
        · replace c9 : 10 ≤ k := (zle (k := 10) (m := k) (by omega) (by omega)).mp c9
          -- end 1: stop, pc 89, locals [(0, .ref (126)), (1, .int (Int32.ofNat (gq_hr h0 L a))), (2, .int (Int32.ofNat (gq_hr h0 L b))), (3, .int (gz_b (gq_rt F G a b (gq_cq h0 L k)))), (4, .int (Int32.ofNat k))]
          exact absurd c9 (by omega)
        · replace c9 : ¬ (10 ≤ k) := fun q9 => c9 ((zle (k := 10) (m := k) (by omega) (by omega)).mpr q9)
          refine gs_aload_n (pc := 12) (gd gk_156 7 rfl) rfl ?_
          refine gs_iload (pc := 13) (gd gk_156 8 rfl) rfl ?_
          refine gs_callV (as := [.int (Int32.ofNat k)]) (pc := 15) (gd gk_156 9 rfl) (by decide) rfl (by decide) rfl rfl (Nat.le_of_ble_eq_true rfl) gq_156_155 (Nat.le_of_ble_eq_true rfl) (m_isChoice k (by omega) hn) (fun r_15 w_15 q_15 => ?_)
          obtain ⟨rfl, rfl⟩ := q_15
          refine gs_if_eq (pc := 18) (gd gk_156 10 rfl) (fun c18 => ?_) (fun c18 => ?_)
          · refine gs_iinc (ls2 := fun v => [(0, .ref (126)), (1, .int (Int32.ofNat (gq_hr h0 L a))), (2, .int (Int32.ofNat (gq_hr h0 L b))), (3, .int (gz_b (gq_rt F G a b (gq_cq h0 L k)))), (4, .int (v))]) (pc := 83) (gd gk_156 51 rfl) rfl (by rw [gL_156]; decide) (fun _ => rfl) (1) rfl (fun v4_1 hv4_1 => ?_)
            obtain rfl : v4_1 = Int32.ofNat (k + 1) := hv4_1.trans (by first | rfl | (simp only [Int32.ofNat_add, Int32.ofNat_mul]; rfl) | (simp only [Int32.ofNat_add, Int32.ofNat_mul]))
            refine gs_goto (pc := 86) (gd gk_156 52 rfl) ?_
            -- end 2: stop, pc 5, locals [(0, .ref (126)), (1, .int (Int32.ofNat (gq_hr h0 L a))), (2, .int (Int32.ofNat (gq_hr h0 L b))), (3, .int (gz_b (gq_rt F G a b (gq_cq h0 L k)))), (4, .int (Int32.ofNat (k + 1)))]
            rw [← hq]
            exact ih (k + 1) (by omega)
          · -- end 3: stop, pc 21, locals [(0, .ref (126)), (1, .int (Int32.ofNat (gq_hr h0 L a))), (2, .int (Int32.ofNat (gq_hr h0 L b))), (3, .int (gz_b (gq_rt F G a b (gq_cq h0 L k)))), (4, .int (Int32.ofNat k))]
            rw [hc] at c18
            exact absurd rfl c18
  refine gs_iconst (pc := 0) (gd gk_156 0 rfl) (1) rfl ?_
  refine gs_istore_n (ls2 := fun v => [(0, .ref (126)), (1, .int (Int32.ofNat (gq_hr h0 L a))), (2, .int (Int32.ofNat (gq_hr h0 L b))), (3, .int (v))]) (pc := 1) (gd gk_156 1 rfl) (by rw [gL_156]; decide) (fun _ => rfl) (fun v3_1 hv3_1 => ?_)
  obtain rfl : v3_1 = Int32.ofNat 1 := hv3_1.trans (by first | rfl | (simp only [Int32.ofNat_add, Int32.ofNat_mul]; rfl) | (simp only [Int32.ofNat_add, Int32.ofNat_mul]))
  refine gs_iconst (pc := 2) (gd gk_156 2 rfl) (0) rfl ?_
  refine gs_istore (ls2 := fun v => [(0, .ref (126)), (1, .int (Int32.ofNat (gq_hr h0 L a))), (2, .int (Int32.ofNat (gq_hr h0 L b))), (3, .int (Int32.ofNat 1)), (4, .int (v))]) (pc := 3) (gd gk_156 3 rfl) (by rw [gL_156]; decide) (fun _ => rfl) (fun v4_1 hv4_1 => ?_)
  obtain rfl : v4_1 = Int32.ofNat 0 := hv4_1.trans (by first | rfl | (simp only [Int32.ofNat_add, Int32.ofNat_mul]; rfl) | (simp only [Int32.ofNat_add, Int32.ofNat_mul]))
  -- end 1: stop, pc 5, locals [(0, .ref (126)), (1, .int (Int32.ofNat (gq_hr h0 L a))), (2, .int (Int32.ofNat (gq_hr h0 L b))), (3, .int (Int32.ofNat 1)), (4, .int (Int32.ofNat 0))]
  have := lp 10 0 (by omega)
  rw [(gq_cq_10 h8).2] at this
  exact this
theorem gm_qf_14x {I I2 : Nat → Nat → Int32} (h : ∀ p, p ≠ 141 → p ≠ 142 → I2 p = I p) : gm_qf I I2 := ⟨fun p _ _ _ _ _ _ _ _ a b => h p a b, fun q _ => by rw [h 133 (by omega) (by omega)], fun q _ _ _ _ _ _ _ _ => by rw [h 126 (by omega) (by omega)]⟩
theorem m_bakers (c x : Int32) (hn : gm_now I W N h0 L bc) : gw_E V 157 (0, [(0, .ref 126), (1, .int c), (2, .int x)], [], gS n I J, 0, 0) (fun v w' => v = some (.int (gq_ba (gz_M I) N h0 L bc (I 133 10) (I 133) c x)) ∧ ∃ I2, w' = gS n I2 J ∧ gm_qf I I2) := by
  have hW8 := hn.1.2.1
  have hW := hn.2.2.1
  have h8 : h0 + L ≤ 8 := by omega
  by_cases hc : 0 ≤ c ∧ c ≤ 9
  · obtain ⟨c2, rfl, hc9⟩ := zto (b := 9) (by decide) hc
    by_cases hx : 0 ≤ x ∧ x ≤ 1
    · generalize hF : gq_F1 (gz_M I) N h0 L bc c2 (I 133 10) (I 133) = F
      generalize hG : gq_F2 (gz_M I) N h0 L bc c2 (I 133 10) (I 133) = G
      have hFq : ∀ I1, gm_qf I I1 → gq_F1 (gz_M I1) N h0 L bc c2 (I1 133 10) (I1 133) = F ∧ gq_F2 (gz_M I1) N h0 L bc c2 (I1 133 10) (I1 133) = G := by
        intro I1 q1
        have hs : ∀ c, c < 10 → I1 133 c = I 133 c := fun c hc => q1.2.1 c (by omega)
        have hfs : ∀ a g m, m < N → gq_fs (gz_M I) h0 bc (I 133 10) (I1 133) a g m = gq_fs (gz_M I) h0 bc (I 133 10) (I 133) a g m := fun a g m hm => gq_fs_c hs (gq_ok_n hn.1 m hm)
        rw [← hF, ← hG, gm_qf_M q1, q1.2.1 10 (by omega)]
        have e1 : ∀ (σ : Nat → Nat → Int32) (A A2 B : Nat → Nat → Int32), (∀ g m, m < N → A g m = A2 g m) → ∀ g x k, k ≤ N → gq_e1 σ h0 A B g x k = gq_e1 σ h0 A2 B g x k ∧ gq_e2 σ h0 A B g x k = gq_e2 σ h0 A2 B g x k := by
          intro σ A A2 B hA g x k
          induction k with
          | zero => intro _; exact ⟨rfl, rfl⟩
          | succ k ih =>
            intro hk
            have := ih (by omega)
            unfold gq_e1 gq_e2
            rw [hA g k (by omega), this.1, this.2]
            exact ⟨rfl, rfl⟩
        have e2 : ∀ (σ : Nat → Nat → Int32) (A A2 B : Nat → Nat → Int32), (∀ g m, m < N → A g m = A2 g m) → ∀ x g, gq_f1 σ N h0 A B x g = gq_f1 σ N h0 A2 B x g ∧ gq_f2 σ N h0 A B x g = gq_f2 σ N h0 A2 B x g := by
          intro σ A A2 B hA x g
          induction g with
          | zero => exact ⟨rfl, rfl⟩
          | succ g ih =>
            unfold gq_f1 gq_f2
            rw [ih.1, ih.2]
            exact ⟨(e1 σ A A2 B hA g _ N (Nat.le_refl N)).1, (e1 σ A A2 B hA g _ N (Nat.le_refl N)).2⟩
        refine ⟨?_, ?_⟩
        · funext a b
          exact (e2 _ _ _ _ (fun g m hm => hfs a g m hm) _ L).1
        · funext a b
          exact (e2 _ _ _ _ (fun g m hm => hfs a g m hm) _ L).2
      have hprA : ∀ k, k < 100 → gq_pr h0 W k = true → ∃ a b, a ≤ L ∧ b ≤ L ∧ k / 10 = gq_hr h0 L a ∧ k % 10 = gq_hr h0 L b ∧ gq_ix h0 L (k / 10) = a ∧ gq_ix h0 L (k % 10) = b := by
        intro k hk hp
        rw [Bool.and_eq_true] at hp
        have q1 := gq_cq_t (L := L) h8 (show k / 10 ≤ 9 by omega) (by rw [hW]; exact hp.1)
        have q2 := gq_cq_t (L := L) h8 (show k % 10 ≤ 9 by omega) (by rw [hW]; exact hp.2)
        exact ⟨gq_cq h0 L (k / 10), gq_cq h0 L (k % 10), q1.2.1, q2.2.1, q1.1.symm, q2.1.symm, q1.2.2.2, q2.2.2.2⟩
      have lp2 : ∀ I1, gm_qf I I1 → (∀ k, k < 100 → gq_pr h0 W k = true → I1 141 k = F (gq_ix h0 L (k / 10)) (gq_ix h0 L (k % 10)) ∧ I1 142 k = G (gq_ix h0 L (k / 10)) (gq_ix h0 L (k % 10))) → ∀ (r k : Nat), r + k = 100 → (gq_ct (gq_R F G h0 L) ((List.range k).filter (gq_pr h0 W))).1 ≤ k → gw_E V 157 (103, [(0, .ref 126), (1, .int (Int32.ofNat c2)), (2, .int x), (3, .int (Int32.ofNat (gq_ct (gq_R F G h0 L) ((List.range k).filter (gq_pr h0 W))).1)), (4, .int (gq_ct (gq_R F G h0 L) ((List.range k).filter (gq_pr h0 W))).2), (5, .int (Int32.ofNat k))], [], gS n I1 J, 0, 0) (fun v w' => v = some (.int (gq_ba (gz_M I) N h0 L bc (I 133 10) (I 133) (Int32.ofNat c2) x)) ∧ ∃ I2, w' = gS n I2 J ∧ gm_qf I I2) := by
        intro I1 g1 g2 r
        have hn1 := gm_qf_now g1 hn
        have hFG : ∀ c, c ≤ L → ∀ d, d ≤ L → I1 141 (10 * gq_hr h0 L c + gq_hr h0 L d) = F c d ∧ I1 142 (10 * gq_hr h0 L c + gq_hr h0 L d) = G c d := by
          intro c hc d hd
          have r1 := gq_hr_9 (h0 := h0) (L := L) (a := c) h8
          have r2 := gq_hr_9 (h0 := h0) (L := L) (a := d) h8
          have hch : ∀ a, a ≤ L → gq_ch h0 W (gq_hr h0 L a) = true := by
            intro a ha
            unfold gq_ch gq_hr
            split
            · simp; omega
            · rfl
          have := g2 (10 * gq_hr h0 L c + gq_hr h0 L d) (by omega) (by
            show (gq_ch h0 W ((10 * gq_hr h0 L c + gq_hr h0 L d) / 10) && gq_ch h0 W ((10 * gq_hr h0 L c + gq_hr h0 L d) % 10)) = true
            rw [show (10 * gq_hr h0 L c + gq_hr h0 L d) / 10 = gq_hr h0 L c by omega, show (10 * gq_hr h0 L c + gq_hr h0 L d) % 10 = gq_hr h0 L d by omega, hch c hc, hch d hd]; rfl)
          rw [show (10 * gq_hr h0 L c + gq_hr h0 L d) / 10 = gq_hr h0 L c by omega, show (10 * gq_hr h0 L c + gq_hr h0 L d) % 10 = gq_hr h0 L d by omega, gq_ix_hr h8 hc, gq_ix_hr h8 hd] at this
          exact this
        induction r with
        | zero =>
          intro k hk hle
          obtain rfl : k = 100 := by omega
          have hbk : gq_ct (gq_R F G h0 L) ((List.range 100).filter (gq_pr h0 W)) = gq_bk (gz_M I) N h0 L bc c2 (I 133 10) (I 133) := by
            unfold gq_bk
            rw [hF, hG, ← hW, gz_prs0 h0 (by omega) L (by omega) (by omega)]
          rw [hbk]
          rw [hbk] at hle
          have hba : gq_ba (gz_M I) N h0 L bc (I 133 10) (I 133) (Int32.ofNat c2) x = if x = 0 then Int32.ofNat (gq_bk (gz_M I) N h0 L bc c2 (I 133 10) (I 133)).1 else (gq_bk (gz_M I) N h0 L bc c2 (I 133 10) (I 133)).2 := by
            unfold gq_ba
            rw [gz_rg_t.mpr hc, gz_rg_t.mpr hx, znn (by omega)]; rfl
          generalize hpp : gq_bk (gz_M I) N h0 L bc c2 (I 133 10) (I 133) = pp at *
          refine gs_iload (pc := 103) (gd gk_157 60 rfl) rfl ?_
          refine gs_bipush (pc := 105) (gd gk_157 61 rfl) (100) rfl ?_
          refine gs_icmp_ge (pc := 107) (gd gk_157 62 rfl) (fun c107 => ?_) (fun c107 => ?_)
          · replace c107 : 100 ≤ 100 := (zle (k := 100) (m := 100) (by omega) (by omega)).mp c107
            refine gs_iload_n (pc := 173) (gd gk_157 93 rfl) rfl ?_
            refine gs_if_ne (pc := 174) (gd gk_157 94 rfl) (fun c174 => ?_) (fun c174 => ?_)
            · refine gs_iload (pc := 181) (gd gk_157 97 rfl) rfl ?_
              -- end 1: ireturn pp.2, pc 183, locals [(0, .ref (126)), (1, .int (Int32.ofNat c2)), (2, .int (x)), (3, .int (Int32.ofNat pp.1)), (4, .int (pp.2)), (5, .int (Int32.ofNat 100))]
              exact gs_iret (pc := 183) (gd gk_157 98 rfl) rfl (rfl) (Nat.zero_le _) (Nat.zero_le _) (⟨by rw [hba, if_neg c174], I1, rfl, g1⟩)
            · refine gs_iload_n (pc := 177) (gd gk_157 95 rfl) rfl ?_
              refine gs_goto (pc := 178) (gd gk_157 96 rfl) ?_
              -- end 2: ireturn Int32.ofNat pp.1, pc 183, locals [(0, .ref (126)), (1, .int (Int32.ofNat c2)), (2, .int (x)), (3, .int (Int32.ofNat pp.1)), (4, .int (pp.2)), (5, .int (Int32.ofNat 100))]
              exact gs_iret (pc := 183) (gd gk_157 98 rfl) rfl (rfl) (Nat.zero_le _) (Nat.zero_le _) (⟨by rw [hba, if_pos c174], I1, rfl, g1⟩)
          · replace c107 : ¬ (100 ≤ 100) := fun q9 => c107 ((zle (k := 100) (m := 100) (by omega) (by omega)).mpr q9)
            -- end 3: stop, pc 110, locals [(0, .ref (126)), (1, .int (Int32.ofNat c2)), (2, .int (x)), (3, .int (Int32.ofNat pp.1)), (4, .int (pp.2)), (5, .int (Int32.ofNat 100))]
            exact absurd (Nat.le_refl _) c107
        | succ r ih =>
          intro k hk hle
          have hd := gz_d10 k (by omega)
          have hrs : (List.range (k + 1)).filter (gq_pr h0 W) = (List.range k).filter (gq_pr h0 W) ++ (if gq_pr h0 W k then [k] else []) := by
            rw [List.range_succ, List.filter_append]
            cases hp : gq_pr h0 W k <;> simp [hp]
          generalize hpp : gq_ct (gq_R F G h0 L) ((List.range k).filter (gq_pr h0 W)) = pp at hle
          obtain ⟨cn, fd⟩ := pp
          have hle : cn ≤ k := hle
          show gw_E V 157 (103, [(0, .ref 126), (1, .int (Int32.ofNat c2)), (2, .int x), (3, .int (Int32.ofNat cn)), (4, .int fd), (5, .int (Int32.ofNat k))], [], gS n I1 J, 0, 0) (fun v w' => v = some (.int (gq_ba (gz_M I) N h0 L bc (I 133 10) (I 133) (Int32.ofNat c2) x)) ∧ ∃ I2, w' = gS n I2 J ∧ gm_qf I I2)
          by_cases hp : gq_pr h0 W k = true
          · obtain ⟨a, b, ha, hb, ea, eb, ia, ib⟩ := hprA k (by omega) hp
            rw [Bool.and_eq_true] at hp
            have hR : gq_R F G h0 L k = gq_rt F G a b (L + 1) := by unfold gq_R; rw [ia, ib]
            have hnx : gq_ct (gq_R F G h0 L) ((List.range (k + 1)).filter (gq_pr h0 W)) = gq_s2 (gq_R F G h0 L) (cn, fd) k := by
              rw [hrs, if_pos (show gq_pr h0 W k = true by rw [Bool.and_eq_true]; exact hp), gq_ct_s, hpp]
            have ih2 := ih (k + 1) (by omega)
            rw [hnx] at ih2
            refine gs_iload (pc := 103) (gd gk_157 60 rfl) rfl ?_
            refine gs_bipush (pc := 105) (gd gk_157 61 rfl) (100) rfl ?_
            refine gs_icmp_ge (pc := 107) (gd gk_157 62 rfl) (fun c107 => ?_) (fun c107 => ?_)
            · replace c107 : 100 ≤ k := (zle (k := 100) (m := k) (by omega) (by omega)).mp c107
              -- end 1: stop, pc 173, locals [(0, .ref (126)), (1, .int (Int32.ofNat c2)), (2, .int (x)), (3, .int (Int32.ofNat cn)), (4, .int (fd)), (5, .int (Int32.ofNat k))]
              exact absurd c107 (by omega)
            · replace c107 : ¬ (100 ≤ k) := fun q9 => c107 ((zle (k := 100) (m := k) (by omega) (by omega)).mpr q9)
              refine gs_aload_n (pc := 110) (gd gk_157 63 rfl) rfl ?_
              refine gs_iload (pc := 111) (gd gk_157 64 rfl) rfl ?_
              refine gs_bipush (pc := 113) (gd gk_157 65 rfl) (10) rfl ?_
              refine gs_idiv (pc := 115) (gd gk_157 66 rfl) (by decide) ?_
              refine gs_as (Int32.ofNat (k / 10)) (hd.1) ?_
              refine gs_callV (as := [.int (Int32.ofNat (k / 10))]) (pc := 116) (gd gk_157 67 rfl) (by decide) rfl (by decide) rfl rfl (Nat.le_of_ble_eq_true rfl) gq_157_155 (Nat.le_of_ble_eq_true rfl) (m_isChoice (k / 10) (by omega) hn1) (fun r_116 w_116 q_116 => ?_)
              obtain ⟨rfl, rfl⟩ := q_116
              refine gs_if_eq (pc := 119) (gd gk_157 68 rfl) (fun c119 => ?_) (fun c119 => ?_)
              · refine gs_iinc (ls2 := fun v => [(0, .ref (126)), (1, .int (Int32.ofNat c2)), (2, .int (x)), (3, .int (Int32.ofNat cn)), (4, .int (fd)), (5, .int (v))]) (pc := 167) (gd gk_157 91 rfl) rfl (by rw [gL_157]; decide) (fun _ => rfl) (1) rfl (fun v5_1 hv5_1 => ?_)
                obtain rfl : v5_1 = Int32.ofNat (k + 1) := hv5_1.trans (by first | rfl | (simp only [Int32.ofNat_add, Int32.ofNat_mul]; rfl) | (simp only [Int32.ofNat_add, Int32.ofNat_mul]))
                refine gs_goto (pc := 170) (gd gk_157 92 rfl) ?_
                -- end 2: stop, pc 103, locals [(0, .ref (126)), (1, .int (Int32.ofNat c2)), (2, .int (x)), (3, .int (Int32.ofNat cn)), (4, .int (fd)), (5, .int (Int32.ofNat (k + 1)))]
                rw [hp.1] at c119
                exact absurd c119 (by decide)
              · refine gs_aload_n (pc := 122) (gd gk_157 69 rfl) rfl ?_
                refine gs_iload (pc := 123) (gd gk_157 70 rfl) rfl ?_
                refine gs_bipush (pc := 125) (gd gk_157 71 rfl) (10) rfl ?_
                refine gs_irem (pc := 127) (gd gk_157 72 rfl) (by decide) ?_
                refine gs_as (Int32.ofNat (k % 10)) (hd.2.1) ?_
                refine gs_callV (as := [.int (Int32.ofNat (k % 10))]) (pc := 128) (gd gk_157 73 rfl) (by decide) rfl (by decide) rfl rfl (Nat.le_of_ble_eq_true rfl) gq_157_155 (Nat.le_of_ble_eq_true rfl) (m_isChoice (k % 10) (by omega) hn1) (fun r_128 w_128 q_128 => ?_)
                obtain ⟨rfl, rfl⟩ := q_128
                refine gs_if_eq (pc := 131) (gd gk_157 74 rfl) (fun c131 => ?_) (fun c131 => ?_)
                · refine gs_iinc (ls2 := fun v => [(0, .ref (126)), (1, .int (Int32.ofNat c2)), (2, .int (x)), (3, .int (Int32.ofNat cn)), (4, .int (fd)), (5, .int (v))]) (pc := 167) (gd gk_157 91 rfl) rfl (by rw [gL_157]; decide) (fun _ => rfl) (1) rfl (fun v5_2 hv5_2 => ?_)
                  obtain rfl : v5_2 = Int32.ofNat (k + 1) := hv5_2.trans (by first | rfl | (simp only [Int32.ofNat_add, Int32.ofNat_mul]; rfl) | (simp only [Int32.ofNat_add, Int32.ofNat_mul]))
                  refine gs_goto (pc := 170) (gd gk_157 92 rfl) ?_
                  -- end 3: stop, pc 103, locals [(0, .ref (126)), (1, .int (Int32.ofNat c2)), (2, .int (x)), (3, .int (Int32.ofNat cn)), (4, .int (fd)), (5, .int (Int32.ofNat (k + 1)))]
                  rw [hp.2] at c131
                  exact absurd c131 (by decide)
                · refine gs_aload_n (pc := 134) (gd gk_157 75 rfl) rfl ?_
                  refine gs_iload (pc := 135) (gd gk_157 76 rfl) rfl ?_
                  refine gs_bipush (pc := 137) (gd gk_157 77 rfl) (10) rfl ?_
                  refine gs_idiv (pc := 139) (gd gk_157 78 rfl) (by decide) ?_
                  refine gs_as (Int32.ofNat (k / 10)) (hd.1) ?_
                  refine gs_iload (pc := 140) (gd gk_157 79 rfl) rfl ?_
                  refine gs_bipush (pc := 142) (gd gk_157 80 rfl) (10) rfl ?_
                  refine gs_irem (pc := 144) (gd gk_157 81 rfl) (by decide) ?_
                  refine gs_as (Int32.ofNat (k % 10)) (hd.2.1) ?_
                  refine gs_callV (as := [.int (Int32.ofNat (k / 10)), .int (Int32.ofNat (k % 10))]) (pc := 145) (gd gk_157 82 rfl) (by decide) rfl (by decide) rfl rfl (Nat.le_of_ble_eq_true rfl) gq_157_156 (Nat.le_of_ble_eq_true rfl) ((by rw [ea, eb]; exact m_isRest F G a b ha hb hFG hn1)) (fun r_145 w_145 q_145 => ?_)
                  rw [← hR] at q_145
                  obtain ⟨rfl, rfl⟩ := q_145
                  refine gs_if_eq (pc := 148) (gd gk_157 83 rfl) (fun c148 => ?_) (fun c148 => ?_)
                  · refine gs_iinc (ls2 := fun v => [(0, .ref (126)), (1, .int (Int32.ofNat c2)), (2, .int (x)), (3, .int (Int32.ofNat cn)), (4, .int (fd)), (5, .int (v))]) (pc := 167) (gd gk_157 91 rfl) rfl (by rw [gL_157]; decide) (fun _ => rfl) (1) rfl (fun v5_3 hv5_3 => ?_)
                    obtain rfl : v5_3 = Int32.ofNat (k + 1) := hv5_3.trans (by first | rfl | (simp only [Int32.ofNat_add, Int32.ofNat_mul]; rfl) | (simp only [Int32.ofNat_add, Int32.ofNat_mul]))
                    refine gs_goto (pc := 170) (gd gk_157 92 rfl) ?_
                    -- end 4: stop, pc 103, locals [(0, .ref (126)), (1, .int (Int32.ofNat c2)), (2, .int (x)), (3, .int (Int32.ofNat cn)), (4, .int (fd)), (5, .int (Int32.ofNat (k + 1)))]
                    rw [gq_s2_f (gz_b_eq.mp c148)] at ih2
                    exact ih2 (by show cn ≤ _; omega)
                  · refine gs_iload_n (pc := 151) (gd gk_157 84 rfl) rfl ?_
                    refine gs_if_ne (pc := 152) (gd gk_157 85 rfl) (fun c152 => ?_) (fun c152 => ?_)
                    · replace c152 : ¬ (cn = 0) := fun q9 => c152 ((zeq (k := cn) (m := 0) (by omega) (by omega)).mpr q9)
                      refine gs_iload (pc := 160) (gd gk_157 88 rfl) rfl ?_
                      refine gs_istore (ls2 := fun v => [(0, .ref (126)), (1, .int (Int32.ofNat c2)), (2, .int (x)), (3, .int (Int32.ofNat cn)), (4, .int (v)), (5, .int (Int32.ofNat k))]) (pc := 162) (gd gk_157 89 rfl) (by rw [gL_157]; decide) (fun _ => rfl) (fun v4_1 hv4_1 => ?_)
                      refine gs_iinc (ls2 := fun v => [(0, .ref (126)), (1, .int (Int32.ofNat c2)), (2, .int (x)), (3, .int (v)), (4, .int (v4_1)), (5, .int (Int32.ofNat k))]) (pc := 164) (gd gk_157 90 rfl) rfl (by rw [gL_157]; decide) (fun _ => rfl) (1) rfl (fun v3_1 hv3_1 => ?_)
                      obtain rfl : v3_1 = Int32.ofNat (cn + 1) := hv3_1.trans (by first | rfl | (simp only [Int32.ofNat_add, Int32.ofNat_mul]; rfl) | (simp only [Int32.ofNat_add, Int32.ofNat_mul]))
                      refine gs_iinc (ls2 := fun v => [(0, .ref (126)), (1, .int (Int32.ofNat c2)), (2, .int (x)), (3, .int (Int32.ofNat (cn + 1))), (4, .int (v4_1)), (5, .int (v))]) (pc := 167) (gd gk_157 91 rfl) rfl (by rw [gL_157]; decide) (fun _ => rfl) (1) rfl (fun v5_4 hv5_4 => ?_)
                      obtain rfl : v5_4 = Int32.ofNat (k + 1) := hv5_4.trans (by first | rfl | (simp only [Int32.ofNat_add, Int32.ofNat_mul]; rfl) | (simp only [Int32.ofNat_add, Int32.ofNat_mul]))
                      refine gs_goto (pc := 170) (gd gk_157 92 rfl) ?_
                      -- end 5: stop, pc 103, locals [(0, .ref (126)), (1, .int (Int32.ofNat c2)), (2, .int (x)), (3, .int (Int32.ofNat (cn + 1))), (4, .int (v4_1)), (5, .int (Int32.ofNat (k + 1)))]
                      rw [gq_s2_t (gz_b_ne.mp c148), if_neg (show ¬ (cn, fd).1 = 0 from c152)] at ih2
                      subst hv4_1
                      exact ih2 (by show cn + 1 ≤ _; omega)
                    · replace c152 : cn = 0 := (zeq (k := cn) (m := 0) (by omega) (by omega)).mp c152
                      refine gs_iload (pc := 155) (gd gk_157 86 rfl) rfl ?_
                      refine gs_goto (pc := 157) (gd gk_157 87 rfl) ?_
                      refine gs_istore (ls2 := fun v => [(0, .ref (126)), (1, .int (Int32.ofNat c2)), (2, .int (x)), (3, .int (Int32.ofNat cn)), (4, .int (v)), (5, .int (Int32.ofNat k))]) (pc := 162) (gd gk_157 89 rfl) (by rw [gL_157]; decide) (fun _ => rfl) (fun v4_2 hv4_2 => ?_)
                      obtain rfl : v4_2 = Int32.ofNat k := hv4_2.trans (by first | rfl | (simp only [Int32.ofNat_add, Int32.ofNat_mul]; rfl) | (simp only [Int32.ofNat_add, Int32.ofNat_mul]))
                      refine gs_iinc (ls2 := fun v => [(0, .ref (126)), (1, .int (Int32.ofNat c2)), (2, .int (x)), (3, .int (v)), (4, .int (Int32.ofNat k)), (5, .int (Int32.ofNat k))]) (pc := 164) (gd gk_157 90 rfl) rfl (by rw [gL_157]; decide) (fun _ => rfl) (1) rfl (fun v3_2 hv3_2 => ?_)
                      obtain rfl : v3_2 = Int32.ofNat (cn + 1) := hv3_2.trans (by first | rfl | (simp only [Int32.ofNat_add, Int32.ofNat_mul]; rfl) | (simp only [Int32.ofNat_add, Int32.ofNat_mul]))
                      refine gs_iinc (ls2 := fun v => [(0, .ref (126)), (1, .int (Int32.ofNat c2)), (2, .int (x)), (3, .int (Int32.ofNat (cn + 1))), (4, .int (Int32.ofNat k)), (5, .int (v))]) (pc := 167) (gd gk_157 91 rfl) rfl (by rw [gL_157]; decide) (fun _ => rfl) (1) rfl (fun v5_5 hv5_5 => ?_)
                      obtain rfl : v5_5 = Int32.ofNat (k + 1) := hv5_5.trans (by first | rfl | (simp only [Int32.ofNat_add, Int32.ofNat_mul]; rfl) | (simp only [Int32.ofNat_add, Int32.ofNat_mul]))
                      refine gs_goto (pc := 170) (gd gk_157 92 rfl) ?_
                      -- end 6: stop, pc 103, locals [(0, .ref (126)), (1, .int (Int32.ofNat c2)), (2, .int (x)), (3, .int (Int32.ofNat (cn + 1))), (4, .int (Int32.ofNat k)), (5, .int (Int32.ofNat (k + 1)))]
                      rw [gq_s2_t (gz_b_ne.mp c148), if_pos (show (cn, fd).1 = 0 from c152)] at ih2
                      exact ih2 (by show cn + 1 ≤ _; omega)
          · have hnx : gq_ct (gq_R F G h0 L) ((List.range (k + 1)).filter (gq_pr h0 W)) = (cn, fd) := by
              rw [hrs, if_neg hp, List.append_nil, hpp]
            have ih2 := ih (k + 1) (by omega)
            rw [hnx] at ih2
            refine gs_iload (pc := 103) (gd gk_157 60 rfl) rfl ?_
            refine gs_bipush (pc := 105) (gd gk_157 61 rfl) (100) rfl ?_
            refine gs_icmp_ge (pc := 107) (gd gk_157 62 rfl) (fun c107 => ?_) (fun c107 => ?_)
            · replace c107 : 100 ≤ k := (zle (k := 100) (m := k) (by omega) (by omega)).mp c107
              -- end 1: stop, pc 173, locals [(0, .ref (126)), (1, .int (Int32.ofNat c2)), (2, .int (x)), (3, .int (Int32.ofNat cn)), (4, .int (fd)), (5, .int (Int32.ofNat k))]
              exact absurd c107 (by omega)
            · replace c107 : ¬ (100 ≤ k) := fun q9 => c107 ((zle (k := 100) (m := k) (by omega) (by omega)).mpr q9)
              refine gs_aload_n (pc := 110) (gd gk_157 63 rfl) rfl ?_
              refine gs_iload (pc := 111) (gd gk_157 64 rfl) rfl ?_
              refine gs_bipush (pc := 113) (gd gk_157 65 rfl) (10) rfl ?_
              refine gs_idiv (pc := 115) (gd gk_157 66 rfl) (by decide) ?_
              refine gs_as (Int32.ofNat (k / 10)) (hd.1) ?_
              refine gs_callV (as := [.int (Int32.ofNat (k / 10))]) (pc := 116) (gd gk_157 67 rfl) (by decide) rfl (by decide) rfl rfl (Nat.le_of_ble_eq_true rfl) gq_157_155 (Nat.le_of_ble_eq_true rfl) (m_isChoice (k / 10) (by omega) hn1) (fun r_116 w_116 q_116 => ?_)
              obtain ⟨rfl, rfl⟩ := q_116
              refine gs_if_eq (pc := 119) (gd gk_157 68 rfl) (fun c119 => ?_) (fun c119 => ?_)
              · refine gs_iinc (ls2 := fun v => [(0, .ref (126)), (1, .int (Int32.ofNat c2)), (2, .int (x)), (3, .int (Int32.ofNat cn)), (4, .int (fd)), (5, .int (v))]) (pc := 167) (gd gk_157 91 rfl) rfl (by rw [gL_157]; decide) (fun _ => rfl) (1) rfl (fun v5_1 hv5_1 => ?_)
                obtain rfl : v5_1 = Int32.ofNat (k + 1) := hv5_1.trans (by first | rfl | (simp only [Int32.ofNat_add, Int32.ofNat_mul]; rfl) | (simp only [Int32.ofNat_add, Int32.ofNat_mul]))
                refine gs_goto (pc := 170) (gd gk_157 92 rfl) ?_
                -- end 2: stop, pc 103, locals [(0, .ref (126)), (1, .int (Int32.ofNat c2)), (2, .int (x)), (3, .int (Int32.ofNat cn)), (4, .int (fd)), (5, .int (Int32.ofNat (k + 1)))]
                exact ih2 (by show cn ≤ _; omega)
              · refine gs_aload_n (pc := 122) (gd gk_157 69 rfl) rfl ?_
                refine gs_iload (pc := 123) (gd gk_157 70 rfl) rfl ?_
                refine gs_bipush (pc := 125) (gd gk_157 71 rfl) (10) rfl ?_
                refine gs_irem (pc := 127) (gd gk_157 72 rfl) (by decide) ?_
                refine gs_as (Int32.ofNat (k % 10)) (hd.2.1) ?_
                refine gs_callV (as := [.int (Int32.ofNat (k % 10))]) (pc := 128) (gd gk_157 73 rfl) (by decide) rfl (by decide) rfl rfl (Nat.le_of_ble_eq_true rfl) gq_157_155 (Nat.le_of_ble_eq_true rfl) (m_isChoice (k % 10) (by omega) hn1) (fun r_128 w_128 q_128 => ?_)
                obtain ⟨rfl, rfl⟩ := q_128
                refine gs_if_eq (pc := 131) (gd gk_157 74 rfl) (fun c131 => ?_) (fun c131 => ?_)
                · refine gs_iinc (ls2 := fun v => [(0, .ref (126)), (1, .int (Int32.ofNat c2)), (2, .int (x)), (3, .int (Int32.ofNat cn)), (4, .int (fd)), (5, .int (v))]) (pc := 167) (gd gk_157 91 rfl) rfl (by rw [gL_157]; decide) (fun _ => rfl) (1) rfl (fun v5_2 hv5_2 => ?_)
                  obtain rfl : v5_2 = Int32.ofNat (k + 1) := hv5_2.trans (by first | rfl | (simp only [Int32.ofNat_add, Int32.ofNat_mul]; rfl) | (simp only [Int32.ofNat_add, Int32.ofNat_mul]))
                  refine gs_goto (pc := 170) (gd gk_157 92 rfl) ?_
                  -- end 3: stop, pc 103, locals [(0, .ref (126)), (1, .int (Int32.ofNat c2)), (2, .int (x)), (3, .int (Int32.ofNat cn)), (4, .int (fd)), (5, .int (Int32.ofNat (k + 1)))]
                  exact ih2 (by show cn ≤ _; omega)
                · -- end 4: stop, pc 134, locals [(0, .ref (126)), (1, .int (Int32.ofNat c2)), (2, .int (x)), (3, .int (Int32.ofNat cn)), (4, .int (fd)), (5, .int (Int32.ofNat k))]
                  exact absurd (show gq_pr h0 W k = true by rw [Bool.and_eq_true]; exact ⟨gz_b_ne.mp c119, gz_b_ne.mp c131⟩) hp
      have lp1 : ∀ (r k : Nat), r + k = 100 → ∀ I1, gm_qf I I1 → (∀ j, j < k → gq_pr h0 W j = true → I1 141 j = F (gq_ix h0 L (j / 10)) (gq_ix h0 L (j % 10)) ∧ I1 142 j = G (gq_ix h0 L (j / 10)) (gq_ix h0 L (j % 10))) → gw_E V 157 (27, [(0, .ref 126), (1, .int (Int32.ofNat c2)), (2, .int x), (3, .int (Int32.ofNat k))], [], gS n I1 J, 0, 0) (fun v w' => v = some (.int (gq_ba (gz_M I) N h0 L bc (I 133 10) (I 133) (Int32.ofNat c2) x)) ∧ ∃ I2, w' = gS n I2 J ∧ gm_qf I I2) := by
        intro r
        induction r with
        | zero =>
          intro k hk I1 g1 g2
          obtain rfl : k = 100 := by omega
          refine gs_iload_n (pc := 27) (gd gk_157 16 rfl) rfl ?_
          refine gs_bipush (pc := 28) (gd gk_157 17 rfl) (100) rfl ?_
          refine gs_icmp_ge (pc := 30) (gd gk_157 18 rfl) (fun c30 => ?_) (fun c30 => ?_)
          · replace c30 : 100 ≤ 100 := (zle (k := 100) (m := 100) (by omega) (by omega)).mp c30
            refine gs_iconst (pc := 94) (gd gk_157 54 rfl) (0) rfl ?_
            refine gs_istore_n (ls2 := fun v => [(0, .ref (126)), (1, .int (Int32.ofNat c2)), (2, .int (x)), (3, .int (v))]) (pc := 95) (gd gk_157 55 rfl) (by rw [gL_157]; decide) (fun _ => rfl) (fun v3_1 hv3_1 => ?_)
            obtain rfl : v3_1 = Int32.ofNat 0 := hv3_1.trans (by first | rfl | (simp only [Int32.ofNat_add, Int32.ofNat_mul]; rfl) | (simp only [Int32.ofNat_add, Int32.ofNat_mul]))
            refine gs_bipush (pc := 96) (gd gk_157 56 rfl) (-99) rfl ?_
            refine gs_istore (ls2 := fun v => [(0, .ref (126)), (1, .int (Int32.ofNat c2)), (2, .int (x)), (3, .int (Int32.ofNat 0)), (4, .int (v))]) (pc := 98) (gd gk_157 57 rfl) (by rw [gL_157]; decide) (fun _ => rfl) (fun v4_1 hv4_1 => ?_)
            refine gs_iconst (pc := 100) (gd gk_157 58 rfl) (0) rfl ?_
            refine gs_istore (ls2 := fun v => [(0, .ref (126)), (1, .int (Int32.ofNat c2)), (2, .int (x)), (3, .int (Int32.ofNat 0)), (4, .int (v4_1)), (5, .int (v))]) (pc := 101) (gd gk_157 59 rfl) (by rw [gL_157]; decide) (fun _ => rfl) (fun v5_1 hv5_1 => ?_)
            obtain rfl : v5_1 = Int32.ofNat 0 := hv5_1.trans (by first | rfl | (simp only [Int32.ofNat_add, Int32.ofNat_mul]; rfl) | (simp only [Int32.ofNat_add, Int32.ofNat_mul]))
            -- end 1: stop, pc 103, locals [(0, .ref (126)), (1, .int (Int32.ofNat c2)), (2, .int (x)), (3, .int (Int32.ofNat 0)), (4, .int (v4_1)), (5, .int (Int32.ofNat 0))]
            subst hv4_1
            exact lp2 I1 g1 g2 100 0 (by omega) (Nat.le_refl _)
          · replace c30 : ¬ (100 ≤ 100) := fun q9 => c30 ((zle (k := 100) (m := 100) (by omega) (by omega)).mpr q9)
            -- end 2: stop, pc 33, locals [(0, .ref (126)), (1, .int (Int32.ofNat c2)), (2, .int (x)), (3, .int (Int32.ofNat 100))]
            exact absurd (Nat.le_refl _) c30
        | succ r ih =>
          intro k hk I1 g1 g2
          have hn1 := gm_qf_now g1 hn
          have hd := gz_d10 k (by omega)
          by_cases hp : gq_pr h0 W k = true
          · obtain ⟨a, b, ha, hb, ea, eb, ia, ib⟩ := hprA k (by omega) hp
            rw [Bool.and_eq_true] at hp
            have hFF := hFq I1 g1
            refine gs_iload_n (pc := 27) (gd gk_157 16 rfl) rfl ?_
            refine gs_bipush (pc := 28) (gd gk_157 17 rfl) (100) rfl ?_
            refine gs_icmp_ge (pc := 30) (gd gk_157 18 rfl) (fun c30 => ?_) (fun c30 => ?_)
            · replace c30 : 100 ≤ k := (zle (k := 100) (m := k) (by omega) (by omega)).mp c30
              -- end 1: stop, pc 94, locals [(0, .ref (126)), (1, .int (Int32.ofNat c2)), (2, .int (x)), (3, .int (Int32.ofNat k))]
              exact absurd c30 (by omega)
            · replace c30 : ¬ (100 ≤ k) := fun q9 => c30 ((zle (k := 100) (m := k) (by omega) (by omega)).mpr q9)
              refine gs_aload_n (pc := 33) (gd gk_157 19 rfl) rfl ?_
              refine gs_iload_n (pc := 34) (gd gk_157 20 rfl) rfl ?_
              refine gs_bipush (pc := 35) (gd gk_157 21 rfl) (10) rfl ?_
              refine gs_idiv (pc := 37) (gd gk_157 22 rfl) (by decide) ?_
              refine gs_as (Int32.ofNat (k / 10)) (hd.1) ?_
              refine gs_callV (as := [.int (Int32.ofNat (k / 10))]) (pc := 38) (gd gk_157 23 rfl) (by decide) rfl (by decide) rfl rfl (Nat.le_of_ble_eq_true rfl) gq_157_155 (Nat.le_of_ble_eq_true rfl) (m_isChoice (k / 10) (by omega) hn1) (fun r_38 w_38 q_38 => ?_)
              obtain ⟨rfl, rfl⟩ := q_38
              refine gs_if_eq (pc := 41) (gd gk_157 24 rfl) (fun c41 => ?_) (fun c41 => ?_)
              · refine gs_iinc (ls2 := fun v => [(0, .ref (126)), (1, .int (Int32.ofNat c2)), (2, .int (x)), (3, .int (v))]) (pc := 88) (gd gk_157 52 rfl) rfl (by rw [gL_157]; decide) (fun _ => rfl) (1) rfl (fun v3_1 hv3_1 => ?_)
                obtain rfl : v3_1 = Int32.ofNat (k + 1) := hv3_1.trans (by first | rfl | (simp only [Int32.ofNat_add, Int32.ofNat_mul]; rfl) | (simp only [Int32.ofNat_add, Int32.ofNat_mul]))
                refine gs_goto (pc := 91) (gd gk_157 53 rfl) ?_
                -- end 2: stop, pc 27, locals [(0, .ref (126)), (1, .int (Int32.ofNat c2)), (2, .int (x)), (3, .int (Int32.ofNat (k + 1)))]
                rw [hp.1] at c41
                exact absurd c41 (by decide)
              · refine gs_aload_n (pc := 44) (gd gk_157 25 rfl) rfl ?_
                refine gs_iload_n (pc := 45) (gd gk_157 26 rfl) rfl ?_
                refine gs_bipush (pc := 46) (gd gk_157 27 rfl) (10) rfl ?_
                refine gs_irem (pc := 48) (gd gk_157 28 rfl) (by decide) ?_
                refine gs_as (Int32.ofNat (k % 10)) (hd.2.1) ?_
                refine gs_callV (as := [.int (Int32.ofNat (k % 10))]) (pc := 49) (gd gk_157 29 rfl) (by decide) rfl (by decide) rfl rfl (Nat.le_of_ble_eq_true rfl) gq_157_155 (Nat.le_of_ble_eq_true rfl) (m_isChoice (k % 10) (by omega) hn1) (fun r_49 w_49 q_49 => ?_)
                obtain ⟨rfl, rfl⟩ := q_49
                refine gs_if_eq (pc := 52) (gd gk_157 30 rfl) (fun c52 => ?_) (fun c52 => ?_)
                · refine gs_iinc (ls2 := fun v => [(0, .ref (126)), (1, .int (Int32.ofNat c2)), (2, .int (x)), (3, .int (v))]) (pc := 88) (gd gk_157 52 rfl) rfl (by rw [gL_157]; decide) (fun _ => rfl) (1) rfl (fun v3_2 hv3_2 => ?_)
                  obtain rfl : v3_2 = Int32.ofNat (k + 1) := hv3_2.trans (by first | rfl | (simp only [Int32.ofNat_add, Int32.ofNat_mul]; rfl) | (simp only [Int32.ofNat_add, Int32.ofNat_mul]))
                  refine gs_goto (pc := 91) (gd gk_157 53 rfl) ?_
                  -- end 3: stop, pc 27, locals [(0, .ref (126)), (1, .int (Int32.ofNat c2)), (2, .int (x)), (3, .int (Int32.ofNat (k + 1)))]
                  rw [hp.2] at c52
                  exact absurd c52 (by decide)
                · refine gs_aload_n (pc := 55) (gd gk_157 31 rfl) rfl ?_
                  refine gs_iload_n (pc := 56) (gd gk_157 32 rfl) rfl ?_
                  refine gs_bipush (pc := 57) (gd gk_157 33 rfl) (10) rfl ?_
                  refine gs_idiv (pc := 59) (gd gk_157 34 rfl) (by decide) ?_
                  refine gs_as (Int32.ofNat (k / 10)) (hd.1) ?_
                  refine gs_iload_n (pc := 60) (gd gk_157 35 rfl) rfl ?_
                  refine gs_bipush (pc := 61) (gd gk_157 36 rfl) (10) rfl ?_
                  refine gs_irem (pc := 63) (gd gk_157 37 rfl) (by decide) ?_
                  refine gs_as (Int32.ofNat (k % 10)) (hd.2.1) ?_
                  refine gs_iload_n (pc := 64) (gd gk_157 38 rfl) rfl ?_
                  refine gs_callV (as := [.int (Int32.ofNat (k / 10)), .int (Int32.ofNat (k % 10)), .int (Int32.ofNat c2)]) (pc := 65) (gd gk_157 39 rfl) (by decide) rfl (by decide) rfl rfl (Nat.le_of_ble_eq_true rfl) gq_157_154 (Nat.le_of_ble_eq_true rfl) ((by rw [ea, eb]; exact m_runTwo a b ha hb (by omega) hn1)) (fun r_65 w_65 q_65 => ?_)
                  obtain ⟨rfl, I_t, rfl, t1, t2, t3⟩ := q_65
                  rw [hFF.1] at t1
                  rw [hFF.2] at t2
                  refine gs_aload_n (pc := 68) (gd gk_157 40 rfl) rfl ?_
                  refine gs_getR (r := 141) (pc := 69) (gd gk_157 41 rfl) rfl rfl rfl (by decide) ?_
                  refine gs_iload_n (pc := 72) (gd gk_157 42 rfl) rfl ?_
                  refine gs_aload_n (pc := 73) (gd gk_157 43 rfl) rfl ?_
                  refine gs_getI (pc := 74) (gd gk_157 44 rfl) rfl rfl ?_
                  refine gs_iastoreK (k) (100) gs_sl (pc := 77) (gd gk_157 45 rfl) rfl rfl (by decide) (by first | rfl | (simp only [Int32.ofNat_add, Int32.ofNat_mul]; rfl) | (simp only [Int32.ofNat_add, Int32.ofNat_mul])) (by omega) (fun I_1 hI_1 => ?_)
                  refine gs_aload_n (pc := 78) (gd gk_157 46 rfl) rfl ?_
                  refine gs_getR (r := 142) (pc := 79) (gd gk_157 47 rfl) rfl rfl rfl (by decide) ?_
                  refine gs_iload_n (pc := 82) (gd gk_157 48 rfl) rfl ?_
                  refine gs_aload_n (pc := 83) (gd gk_157 49 rfl) rfl ?_
                  refine gs_getI (pc := 84) (gd gk_157 50 rfl) rfl rfl ?_
                  refine gs_iastoreK (k) (100) gs_sl (pc := 87) (gd gk_157 51 rfl) rfl rfl (by decide) (by first | rfl | (simp only [Int32.ofNat_add, Int32.ofNat_mul]; rfl) | (simp only [Int32.ofNat_add, Int32.ofNat_mul])) (by omega) (fun I_2 hI_2 => ?_)
                  refine gs_iinc (ls2 := fun v => [(0, .ref (126)), (1, .int (Int32.ofNat c2)), (2, .int (x)), (3, .int (v))]) (pc := 88) (gd gk_157 52 rfl) rfl (by rw [gL_157]; decide) (fun _ => rfl) (1) rfl (fun v3_3 hv3_3 => ?_)
                  obtain rfl : v3_3 = Int32.ofNat (k + 1) := hv3_3.trans (by first | rfl | (simp only [Int32.ofNat_add, Int32.ofNat_mul]; rfl) | (simp only [Int32.ofNat_add, Int32.ofNat_mul]))
                  refine gs_goto (pc := 91) (gd gk_157 53 rfl) ?_
                  -- end 4: stop, pc 27, locals [(0, .ref (126)), (1, .int (Int32.ofNat c2)), (2, .int (x)), (3, .int (Int32.ofNat (k + 1)))]
                  refine ih (k + 1) (by omega) I_2 (gm_qf_tr (gm_qf_tr g1 (gm_tf_q t3)) (gm_qf_14x (fun p q1 q2 => by rw [hI_2, gw_u_o q2, hI_1, gw_u_o q1]))) (fun j hj hpj => ?_)
                  have o1 : I_t 141 = I1 141 := t3.1 141 (by omega) (by omega) (by omega) (by omega)
                  have o2 : I_t 142 = I1 142 := t3.1 142 (by omega) (by omega) (by omega) (by omega)
                  by_cases e : j = k
                  · rw [e, ia, ib]
                    refine ⟨?_, ?_⟩
                    · rw [hI_2, gw_u_o (by omega), hI_1, gw_u_s]; unfold upd; rw [if_pos rfl, t1]
                    · rw [hI_2, gw_u_s]; unfold upd; rw [if_pos rfl, hI_1, gw_u_o (by omega), t2]
                  · have := g2 j (by omega) hpj
                    refine ⟨?_, ?_⟩
                    · rw [hI_2, gw_u_o (by omega), hI_1, gw_u_s]; unfold upd; rw [if_neg e, o1]; exact this.1
                    · rw [hI_2, gw_u_s]; unfold upd; rw [if_neg e, hI_1, gw_u_o (by omega), o2]; exact this.2
          · have g3 : ∀ j, j < k + 1 → gq_pr h0 W j = true → I1 141 j = F (gq_ix h0 L (j / 10)) (gq_ix h0 L (j % 10)) ∧ I1 142 j = G (gq_ix h0 L (j / 10)) (gq_ix h0 L (j % 10)) := fun j hj hpj => by
              by_cases e : j = k
              · rw [e] at hpj; exact absurd hpj hp
              · exact g2 j (by omega) hpj
            refine gs_iload_n (pc := 27) (gd gk_157 16 rfl) rfl ?_
            refine gs_bipush (pc := 28) (gd gk_157 17 rfl) (100) rfl ?_
            refine gs_icmp_ge (pc := 30) (gd gk_157 18 rfl) (fun c30 => ?_) (fun c30 => ?_)
            · replace c30 : 100 ≤ k := (zle (k := 100) (m := k) (by omega) (by omega)).mp c30
              -- end 1: stop, pc 94, locals [(0, .ref (126)), (1, .int (Int32.ofNat c2)), (2, .int (x)), (3, .int (Int32.ofNat k))]
              exact absurd c30 (by omega)
            · replace c30 : ¬ (100 ≤ k) := fun q9 => c30 ((zle (k := 100) (m := k) (by omega) (by omega)).mpr q9)
              refine gs_aload_n (pc := 33) (gd gk_157 19 rfl) rfl ?_
              refine gs_iload_n (pc := 34) (gd gk_157 20 rfl) rfl ?_
              refine gs_bipush (pc := 35) (gd gk_157 21 rfl) (10) rfl ?_
              refine gs_idiv (pc := 37) (gd gk_157 22 rfl) (by decide) ?_
              refine gs_as (Int32.ofNat (k / 10)) (hd.1) ?_
              refine gs_callV (as := [.int (Int32.ofNat (k / 10))]) (pc := 38) (gd gk_157 23 rfl) (by decide) rfl (by decide) rfl rfl (Nat.le_of_ble_eq_true rfl) gq_157_155 (Nat.le_of_ble_eq_true rfl) (m_isChoice (k / 10) (by omega) hn1) (fun r_38 w_38 q_38 => ?_)
              obtain ⟨rfl, rfl⟩ := q_38
              refine gs_if_eq (pc := 41) (gd gk_157 24 rfl) (fun c41 => ?_) (fun c41 => ?_)
              · refine gs_iinc (ls2 := fun v => [(0, .ref (126)), (1, .int (Int32.ofNat c2)), (2, .int (x)), (3, .int (v))]) (pc := 88) (gd gk_157 52 rfl) rfl (by rw [gL_157]; decide) (fun _ => rfl) (1) rfl (fun v3_1 hv3_1 => ?_)
                obtain rfl : v3_1 = Int32.ofNat (k + 1) := hv3_1.trans (by first | rfl | (simp only [Int32.ofNat_add, Int32.ofNat_mul]; rfl) | (simp only [Int32.ofNat_add, Int32.ofNat_mul]))
                refine gs_goto (pc := 91) (gd gk_157 53 rfl) ?_
                -- end 2: stop, pc 27, locals [(0, .ref (126)), (1, .int (Int32.ofNat c2)), (2, .int (x)), (3, .int (Int32.ofNat (k + 1)))]
                exact ih (k + 1) (by omega) I1 g1 g3
              · refine gs_aload_n (pc := 44) (gd gk_157 25 rfl) rfl ?_
                refine gs_iload_n (pc := 45) (gd gk_157 26 rfl) rfl ?_
                refine gs_bipush (pc := 46) (gd gk_157 27 rfl) (10) rfl ?_
                refine gs_irem (pc := 48) (gd gk_157 28 rfl) (by decide) ?_
                refine gs_as (Int32.ofNat (k % 10)) (hd.2.1) ?_
                refine gs_callV (as := [.int (Int32.ofNat (k % 10))]) (pc := 49) (gd gk_157 29 rfl) (by decide) rfl (by decide) rfl rfl (Nat.le_of_ble_eq_true rfl) gq_157_155 (Nat.le_of_ble_eq_true rfl) (m_isChoice (k % 10) (by omega) hn1) (fun r_49 w_49 q_49 => ?_)
                obtain ⟨rfl, rfl⟩ := q_49
                refine gs_if_eq (pc := 52) (gd gk_157 30 rfl) (fun c52 => ?_) (fun c52 => ?_)
                · refine gs_iinc (ls2 := fun v => [(0, .ref (126)), (1, .int (Int32.ofNat c2)), (2, .int (x)), (3, .int (v))]) (pc := 88) (gd gk_157 52 rfl) rfl (by rw [gL_157]; decide) (fun _ => rfl) (1) rfl (fun v3_2 hv3_2 => ?_)
                  obtain rfl : v3_2 = Int32.ofNat (k + 1) := hv3_2.trans (by first | rfl | (simp only [Int32.ofNat_add, Int32.ofNat_mul]; rfl) | (simp only [Int32.ofNat_add, Int32.ofNat_mul]))
                  refine gs_goto (pc := 91) (gd gk_157 53 rfl) ?_
                  -- end 3: stop, pc 27, locals [(0, .ref (126)), (1, .int (Int32.ofNat c2)), (2, .int (x)), (3, .int (Int32.ofNat (k + 1)))]
                  exact ih (k + 1) (by omega) I1 g1 g3
                · -- end 4: stop, pc 55, locals [(0, .ref (126)), (1, .int (Int32.ofNat c2)), (2, .int (x)), (3, .int (Int32.ofNat k))]
                  exact absurd (show gq_pr h0 W k = true by rw [Bool.and_eq_true]; exact ⟨gz_b_ne.mp c41, gz_b_ne.mp c52⟩) hp
      refine gs_iload_n (pc := 0) (gd gk_157 0 rfl) rfl ?_
      refine gs_i2l (pc := 1) (gd gk_157 1 rfl) ?_
      refine gs_lconst (pc := 2) (gd gk_157 2 rfl) (0) rfl ?_
      refine gs_ldc2_w (pc := 3) (gd gk_157 3 rfl) (9) rfl ?_
      refine gs_callS (as := [.long ((Int32.ofNat c2 : Int32).toInt64), .long (0), .long (9)]) (pc := 6) (gd gk_157 4 rfl) (by decide) rfl rfl (Nat.le_of_ble_eq_true rfl) gq_157_107 (Nat.le_of_ble_eq_true rfl) (c_mrg (Int32.ofNat c2) (0) (9)) (fun r_6 w_6 q_6 => ?_)
      obtain ⟨rfl, rfl⟩ := q_6
      refine gs_if_eq (pc := 9) (gd gk_157 5 rfl) (fun c9 => ?_) (fun c9 => ?_)
      · refine gs_bipush (pc := 22) (gd gk_157 12 rfl) (-2) rfl ?_
        -- end 1: ireturn (-2), pc 24, locals [(0, .ref (126)), (1, .int (Int32.ofNat c2)), (2, .int (x))]
        exact absurd hc (gz_rg_f.mp (gz_b_eq.mp c9))
      · refine gs_iload_n (pc := 12) (gd gk_157 6 rfl) rfl ?_
        refine gs_i2l (pc := 13) (gd gk_157 7 rfl) ?_
        refine gs_lconst (pc := 14) (gd gk_157 8 rfl) (0) rfl ?_
        refine gs_lconst (pc := 15) (gd gk_157 9 rfl) (1) rfl ?_
        refine gs_callS (as := [.long ((x : Int32).toInt64), .long (0), .long (1)]) (pc := 16) (gd gk_157 10 rfl) (by decide) rfl rfl (Nat.le_of_ble_eq_true rfl) gq_157_107 (Nat.le_of_ble_eq_true rfl) (c_mrg (x) (0) (1)) (fun r_16 w_16 q_16 => ?_)
        obtain ⟨rfl, rfl⟩ := q_16
        refine gs_if_ne (pc := 19) (gd gk_157 11 rfl) (fun c19 => ?_) (fun c19 => ?_)
        · refine gs_iconst (pc := 25) (gd gk_157 14 rfl) (0) rfl ?_
          refine gs_istore_n (ls2 := fun v => [(0, .ref (126)), (1, .int (Int32.ofNat c2)), (2, .int (x)), (3, .int (v))]) (pc := 26) (gd gk_157 15 rfl) (by rw [gL_157]; decide) (fun _ => rfl) (fun v3_1 hv3_1 => ?_)
          obtain rfl : v3_1 = Int32.ofNat 0 := hv3_1.trans (by first | rfl | (simp only [Int32.ofNat_add, Int32.ofNat_mul]; rfl) | (simp only [Int32.ofNat_add, Int32.ofNat_mul]))
          -- end 2: stop, pc 27, locals [(0, .ref (126)), (1, .int (Int32.ofNat c2)), (2, .int (x)), (3, .int (Int32.ofNat 0))]
          exact lp1 100 0 (by omega) I (gm_qf_rf I) (fun j hj => absurd hj (Nat.not_lt_zero _))
        · refine gs_bipush (pc := 22) (gd gk_157 12 rfl) (-2) rfl ?_
          -- end 3: ireturn (-2), pc 24, locals [(0, .ref (126)), (1, .int (Int32.ofNat c2)), (2, .int (x))]
          exact absurd hx (gz_rg_f.mp (gz_b_eq.mp c19))
    · skip
      refine gs_iload_n (pc := 0) (gd gk_157 0 rfl) rfl ?_
      refine gs_i2l (pc := 1) (gd gk_157 1 rfl) ?_
      refine gs_lconst (pc := 2) (gd gk_157 2 rfl) (0) rfl ?_
      refine gs_ldc2_w (pc := 3) (gd gk_157 3 rfl) (9) rfl ?_
      refine gs_callS (as := [.long ((Int32.ofNat c2 : Int32).toInt64), .long (0), .long (9)]) (pc := 6) (gd gk_157 4 rfl) (by decide) rfl rfl (Nat.le_of_ble_eq_true rfl) gq_157_107 (Nat.le_of_ble_eq_true rfl) (c_mrg (Int32.ofNat c2) (0) (9)) (fun r_6 w_6 q_6 => ?_)
      obtain ⟨rfl, rfl⟩ := q_6
      refine gs_if_eq (pc := 9) (gd gk_157 5 rfl) (fun c9 => ?_) (fun c9 => ?_)
      · refine gs_bipush (pc := 22) (gd gk_157 12 rfl) (-2) rfl ?_
        -- end 1: ireturn (-2), pc 24, locals [(0, .ref (126)), (1, .int (Int32.ofNat c2)), (2, .int (x))]
        exact absurd hc (gz_rg_f.mp (gz_b_eq.mp c9))
      · refine gs_iload_n (pc := 12) (gd gk_157 6 rfl) rfl ?_
        refine gs_i2l (pc := 13) (gd gk_157 7 rfl) ?_
        refine gs_lconst (pc := 14) (gd gk_157 8 rfl) (0) rfl ?_
        refine gs_lconst (pc := 15) (gd gk_157 9 rfl) (1) rfl ?_
        refine gs_callS (as := [.long ((x : Int32).toInt64), .long (0), .long (1)]) (pc := 16) (gd gk_157 10 rfl) (by decide) rfl rfl (Nat.le_of_ble_eq_true rfl) gq_157_107 (Nat.le_of_ble_eq_true rfl) (c_mrg (x) (0) (1)) (fun r_16 w_16 q_16 => ?_)
        obtain ⟨rfl, rfl⟩ := q_16
        refine gs_if_ne (pc := 19) (gd gk_157 11 rfl) (fun c19 => ?_) (fun c19 => ?_)
        · -- end 2: stop, pc 25, locals [(0, .ref (126)), (1, .int (Int32.ofNat c2)), (2, .int (x))]
          exact absurd (gz_rg_t.mp (gz_b_ne.mp c19)) hx
        · refine gs_bipush (pc := 22) (gd gk_157 12 rfl) (-2) rfl ?_
          -- end 3: ireturn (-2), pc 24, locals [(0, .ref (126)), (1, .int (Int32.ofNat c2)), (2, .int (x))]
          exact gs_iret (pc := 24) (gd gk_157 13 rfl) rfl (rfl) (Nat.zero_le _) (Nat.zero_le _) (⟨by unfold gq_ba; rw [gz_b_eq.mp c19, Bool.and_false]; rfl, I, rfl, gm_qf_rf I⟩)
  · skip
    refine gs_iload_n (pc := 0) (gd gk_157 0 rfl) rfl ?_
    refine gs_i2l (pc := 1) (gd gk_157 1 rfl) ?_
    refine gs_lconst (pc := 2) (gd gk_157 2 rfl) (0) rfl ?_
    refine gs_ldc2_w (pc := 3) (gd gk_157 3 rfl) (9) rfl ?_
    refine gs_callS (as := [.long ((c : Int32).toInt64), .long (0), .long (9)]) (pc := 6) (gd gk_157 4 rfl) (by decide) rfl rfl (Nat.le_of_ble_eq_true rfl) gq_157_107 (Nat.le_of_ble_eq_true rfl) (c_mrg (c) (0) (9)) (fun r_6 w_6 q_6 => ?_)
    obtain ⟨rfl, rfl⟩ := q_6
    refine gs_if_eq (pc := 9) (gd gk_157 5 rfl) (fun c9 => ?_) (fun c9 => ?_)
    · refine gs_bipush (pc := 22) (gd gk_157 12 rfl) (-2) rfl ?_
      -- end 1: ireturn (-2), pc 24, locals [(0, .ref (126)), (1, .int (c)), (2, .int (x))]
      exact gs_iret (pc := 24) (gd gk_157 13 rfl) rfl (rfl) (Nat.zero_le _) (Nat.zero_le _) (⟨by unfold gq_ba; rw [gz_b_eq.mp c9]; rfl, I, rfl, gm_qf_rf I⟩)
    · -- end 2: stop, pc 12, locals [(0, .ref (126)), (1, .int (c)), (2, .int (x))]
      exact absurd (gz_rg_t.mp (gz_b_ne.mp c9)) hc
end
