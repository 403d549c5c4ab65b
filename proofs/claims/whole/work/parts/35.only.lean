/-! ===== the class: findOnly, only ===== -/
def gq_le (p q : Nat) : Prop := gz_pc p < gz_pc q ∨ gz_pc p = gz_pc q ∧ p ≤ q
def gq_onl (hv : Nat → Int32) (told : Int32) (h0 L p : Nat) : Prop := gz_su p h0 L ∧ hv p = told ∧ ∀ q, gz_su q h0 L → hv q = told → gq_le p q
theorem gq_onl_one {hv : Nat → Int32} {told : Int32} {h0 L p q : Nat} (h1 : gq_onl hv told h0 L p) (h2 : gq_onl hv told h0 L q) : p = q := by
  have a := h1.2.2 q h2.1 h2.2.1
  have b := h2.2.2 p h1.1 h1.2.1
  unfold gq_le at a b
  omega
theorem gq_le_tr {p q r : Nat} (h1 : gq_le p q) (h2 : gq_le q r) : gq_le p r := by
  unfold gq_le at *
  omega
abbrev gq_hv (σ : Nat → Nat → Int32) (N h0 L bc : Nat) (ch : Int32) (s0 : Nat → Int32) : Nat → Int32 := fun p => gq_hd σ (fun q => gq_wd σ 0 (h0 + q)) (fun q => gz_in (Int32.ofNat p) (Int32.ofNat (h0 + q))) bc ch s0 N L
theorem gq_hv_c {s1 s2 : Nat → Int32} (h : ∀ c, c < 10 → s1 c = s2 c) {σ : Nat → Nat → Int32} {N h0 L bc : Nat} {ch : Int32} (hn : ∀ m, m < N → 0 ≤ σ 2 m ∧ σ 2 m ≤ 9) : gq_hv σ N h0 L bc ch s1 = gq_hv σ N h0 L bc ch s2 := by
  funext p
  exact gq_hd_c h hn L
abbrev cq_only (n : Nat) (I : Nat → Nat → Int32) (J : Nat → Nat → Int64) (N h0 L bc : Nat) (told : Int32) : Option Value → gw_W → Prop := fun v w' => ∃ I2 f, w' = gS n I2 J ∧ v = some (.int (gz_b f)) ∧ gq_qf I I2 ∧ (f = true → ∃ p, I2 81 1 = Int32.ofNat p ∧ gq_onl (gq_hv (gz_S I) N h0 L bc (I 57 6) (I 59)) told h0 L p) ∧ (f = false → ∀ q, gz_su q h0 L → gq_hv (gz_S I) N h0 L bc (I 57 6) (I 59) q ≠ told)
theorem zinj {a b : Nat} (ha : a < 256) (hb : b < 256) (h : Int32.ofNat a = Int32.ofNat b) : a = b := (zeq (by omega) (by omega)).mp h
theorem c_findOnly {V : gw_V} {n W N h0 L bc : Nat} {I : Nat → Nat → Int32} {J : Nat → Nat → Int64} (told : Int32) (hon : gq_on I W N h0 L bc) : gw_E V 6 (0, [(0, .ref 81), (1, .int told)], [], gS n I J, 0, 0) (cq_only n I J N h0 L bc told) := by
  obtain ⟨hok, -, -, hW, -⟩ := id hon
  have hW8 : W ≤ 8 := hok.2.1
  generalize hval : gq_hv (gz_S I) N h0 L bc (I 57 6) (I 59) = hv
  have hpw : 2 ^ L ≤ 256 := Nat.le_trans (Nat.pow_le_pow_right (by omega) (show L ≤ 8 by omega)) (by decide)
  have lp : ∀ (m k : Nat), m + k = 2 ^ L → ∀ I1 f, gq_on I1 W N h0 L bc → gq_qf I I1 → I1 59 = I 59 → I1 57 6 = I 57 6 → (f = true → ∃ j, j < k ∧ I1 81 1 = Int32.ofNat (gz_sn j h0 L L) ∧ hv (gz_sn j h0 L L) = told ∧ ∀ i, i < k → hv (gz_sn i h0 L L) = told → gq_le (gz_sn j h0 L L) (gz_sn i h0 L L)) → (f = false → ∀ i, i < k → hv (gz_sn i h0 L L) ≠ told) → gw_E V 6 (4, [(0, .ref 81), (1, .int told), (2, .int (gz_b f)), (3, .int (Int32.ofNat k))], [], gS n I1 J, 0, 0) (cq_only n I J N h0 L bc told) := by
    intro m
    induction m with
    | zero =>
      intro k hk I1 f h1 h2 h3 h4 h5 h6
      obtain rfl : k = 2 ^ L := by omega
      refine gs_iload_n (pc := 4) (gd gk_6 4 rfl) rfl ?_
      refine gs_aload_n (pc := 5) (gd gk_6 5 rfl) rfl ?_
      refine gs_getR (r := 57) (pc := 6) (gd gk_6 6 rfl) rfl rfl rfl (by decide) ?_
      refine gs_callV (as := []) (pc := 9) (gd gk_6 7 rfl) (by decide) rfl (by decide) rfl rfl (Nat.le_of_ble_eq_true rfl) gq_6_51 (Nat.le_of_ble_eq_true rfl) (c_sets (L := L) h1.2.2.1 (by omega)) (fun r_9 w_9 q_9 => ?_)
      obtain ⟨rfl, rfl⟩ := q_9
      refine gs_icmp_ge (pc := 12) (gd gk_6 8 rfl) (fun c12 => ?_) (fun c12 => ?_)
      · replace c12 : (2 ^ L) ≤ (2 ^ L) := (zle (k := (2 ^ L)) (m := (2 ^ L)) (by omega) (by omega)).mp c12
        refine gs_iload_n (pc := 76) (gd gk_6 38 rfl) rfl ?_
        -- end 1: ireturn gz_b f, pc 77, locals [(0, .ref (81)), (1, .int (told)), (2, .int (gz_b f)), (3, .int (Int32.ofNat (2 ^ L)))]
        have hall : ∀ q, gz_su q h0 L → ∃ i, i < 2 ^ L ∧ gz_sn i h0 L L = q := fun q hq => ⟨_, (gz_su_sn h0 (by omega) L (by omega) (by omega) q hq.2).resolve_left (fun z => z hq.1)⟩
        exact gs_iret (pc := 77) (gd gk_6 39 rfl) rfl (gz_b_nar _) (Nat.zero_le _) (Nat.zero_le _) (⟨I1, f, rfl, rfl, h2, fun hf => by
          obtain ⟨j, hj, e1, e2, e3⟩ := h5 hf
          refine ⟨_, e1, gz_sn_su h0 (by omega) L (by omega) (by omega) j hj, by rw [hval]; exact e2, fun q hq hh => ?_⟩
          obtain ⟨i, hi, rfl⟩ := hall q hq
          rw [hval] at hh
          exact e3 i hi hh, fun hf q hq => by
          obtain ⟨i, hi, rfl⟩ := hall q hq
          rw [hval]
          exact h6 hf i hi⟩)
      · replace c12 : ¬ ((2 ^ L) ≤ (2 ^ L)) := fun q9 => c12 ((zle (k := (2 ^ L)) (m := (2 ^ L)) (by omega) (by omega)).mpr q9)
        -- end 2: stop, pc 15, locals [(0, .ref (81)), (1, .int (told)), (2, .int (gz_b f)), (3, .int (Int32.ofNat (2 ^ L)))]
        exact absurd (Nat.le_refl _) c12
    | succ m ih =>
      intro k hk I1 f h1 h2 h3 h4 h5 h6
      have hS1 : gz_S I1 = gz_S I := gq_qf_S h2
      have hkL : k < 2 ^ L := by omega
      have hsn := gz_se_sn h0 (by omega) L (by omega) (by omega) k hkL
      refine gs_iload_n (pc := 4) (gd gk_6 4 rfl) rfl ?_
      refine gs_aload_n (pc := 5) (gd gk_6 5 rfl) rfl ?_
      refine gs_getR (r := 57) (pc := 6) (gd gk_6 6 rfl) rfl rfl rfl (by decide) ?_
      refine gs_callV (as := []) (pc := 9) (gd gk_6 7 rfl) (by decide) rfl (by decide) rfl rfl (Nat.le_of_ble_eq_true rfl) gq_6_51 (Nat.le_of_ble_eq_true rfl) (c_sets (L := L) h1.2.2.1 (by omega)) (fun r_9 w_9 q_9 => ?_)
      obtain ⟨rfl, rfl⟩ := q_9
      refine gs_icmp_ge (pc := 12) (gd gk_6 8 rfl) (fun c12 => ?_) (fun c12 => ?_)
      · replace c12 : (2 ^ L) ≤ k := (zle (k := (2 ^ L)) (m := k) (by omega) (by omega)).mp c12
        refine gs_iload_n (pc := 76) (gd gk_6 38 rfl) rfl ?_
        -- end 1: ireturn gz_b f, pc 77, locals [(0, .ref (81)), (1, .int (told)), (2, .int (gz_b f)), (3, .int (Int32.ofNat k))]
        exact absurd c12 (by omega)
      · replace c12 : ¬ ((2 ^ L) ≤ k) := fun q9 => c12 ((zle (k := (2 ^ L)) (m := k) (by omega) (by omega)).mpr q9)
        refine gs_aload_n (pc := 15) (gd gk_6 9 rfl) rfl ?_
        refine gs_getR (r := 57) (pc := 16) (gd gk_6 10 rfl) rfl rfl rfl (by decide) ?_
        refine gs_iload_n (pc := 19) (gd gk_6 11 rfl) rfl ?_
        refine gs_callV (as := [.int (Int32.ofNat k)]) (pc := 20) (gd gk_6 12 rfl) (by decide) rfl (by decide) rfl rfl (Nat.le_of_ble_eq_true rfl) gq_6_52 (Nat.le_of_ble_eq_true rfl) (c_set k hkL h1.2.1 h1.2.2.1 (by omega)) (fun r_20 w_20 q_20 => ?_)
        obtain ⟨rfl, rfl⟩ := q_20
        refine gs_istore (ls2 := fun v => [(0, .ref (81)), (1, .int (told)), (2, .int (gz_b f)), (3, .int (Int32.ofNat k)), (4, .int (v))]) (pc := 23) (gd gk_6 13 rfl) (by rw [gL_6]; decide) (fun _ => rfl) (fun v4_1 hv4_1 => ?_)
        obtain rfl : v4_1 = Int32.ofNat (gz_sn k h0 L L) := hv4_1.trans (by first | rfl | (simp only [Int32.ofNat_add, Int32.ofNat_mul]; rfl) | (simp only [Int32.ofNat_add, Int32.ofNat_mul]))
        refine gs_aload_n (pc := 25) (gd gk_6 14 rfl) rfl ?_
        refine gs_getR (r := 57) (pc := 26) (gd gk_6 15 rfl) rfl rfl rfl (by decide) ?_
        refine gs_iload (pc := 29) (gd gk_6 16 rfl) rfl ?_
        refine gs_iconst (pc := 31) (gd gk_6 17 rfl) (0) rfl ?_
        refine gs_callV (as := [.int (Int32.ofNat (gz_sn k h0 L L)), .int (0)]) (pc := 32) (gd gk_6 18 rfl) (by decide) rfl (by decide) rfl rfl (Nat.le_of_ble_eq_true rfl) gq_6_53 (Nat.le_of_ble_eq_true rfl) (c_take2 (Int32.ofNat (gz_sn k h0 L L)) 0 h1) (fun r_32 w_32 q_32 => ?_)
        obtain ⟨rfl, I_t, rfl, t1, t2, t3⟩ := q_32
        have hS2 : gz_S I_t = gz_S I := by rw [gq_wf_S t1]; exact hS1
        have b59 : I_t 59 = I 59 := by rw [t1.1 59 (by omega) (by omega) (by omega)]; exact h3
        have b6 : I_t 57 6 = I 57 6 := by rw [t1.2.2 6 (by omega) (by omega) (by omega)]; exact h4
        have bq : gq_qf I I_t := gq_qf_tr h2 (gq_qf_w t1)
        have hvk : I_t 79 L = hv (gz_sn k h0 L L) := by rw [(t3 L (Nat.le_refl L)).2.2.2.1, hS1, h3, h4, ← hval]
        have b81 : I_t 81 = I1 81 := t1.1 81 (by omega) (by omega) (by omega)
        have old : hv (gz_sn k h0 L L) ≠ told ∨ (f = true ∧ ∀ j, I1 81 1 = Int32.ofNat (gz_sn j h0 L L) → hv (gz_sn j h0 L L) = told → j < k → gq_le (gz_sn j h0 L L) (gz_sn k h0 L L)) → gw_E V 6 (4, [(0, .ref 81), (1, .int told), (2, .int (gz_b f)), (3, .int (Int32.ofNat (k + 1)))], [], gS n I_t J, 0, 0) (cq_only n I J N h0 L bc told) := fun hh => ih (k + 1) (by omega) I_t f t2 bq b59 b6 (fun hf => by
          obtain ⟨j, hj, e1, e2, e3⟩ := h5 hf
          refine ⟨j, by omega, by rw [b81]; exact e1, e2, fun i hi he => ?_⟩
          by_cases q : i = k
          · subst q
            rcases hh with hh | hh
            · exact absurd he hh
            · exact hh.2 j e1 e2 hj
          · exact e3 i (by omega) he) (fun hf i hi => by
          by_cases q : i = k
          · subst q
            rcases hh with hh | hh
            · exact hh
            · rw [hf] at hh; exact absurd hh.1 (by decide)
          · exact h6 hf i (by omega))
        have new : ∀ I3, hv (gz_sn k h0 L L) = told → (f = true → ∀ j, I1 81 1 = Int32.ofNat (gz_sn j h0 L L) → j < k → gq_le (gz_sn k h0 L L) (gz_sn j h0 L L)) → I3 = gw_u I_t 81 1 (Int32.ofNat (gz_sn k h0 L L)) → gw_E V 6 (4, [(0, .ref 81), (1, .int told), (2, .int (gz_b true)), (3, .int (Int32.ofNat (k + 1)))], [], gS n I3 J, 0, 0) (cq_only n I J N h0 L bc told) := fun I3 hh hl e3 => by
          have ho : ∀ p, p ≠ 81 → I3 p = I_t p := fun p hp => by rw [e3, gw_u_o hp]
          refine ih (k + 1) (by omega) I3 true (gq_wf_on (ho 57 (by omega)) ho t2) (gq_qf_tr bq ⟨fun p _ _ _ => ho p (by omega), by rw [ho 78 (by omega)], by rw [ho 79 (by omega)], ho 69 (by omega)⟩) (by rw [ho 59 (by omega)]; exact b59) (by rw [ho 57 (by omega)]; exact b6) (fun _ => ⟨k, by omega, by rw [e3, gw_u_s]; simp [upd], hh, fun i hi he => ?_⟩) (fun hf => by cases hf)
          by_cases q : i = k
          · subst q; exact .inr ⟨rfl, Nat.le_refl _⟩
          · cases f with
            | true =>
              obtain ⟨j, hj, e1, e2, e4⟩ := h5 rfl
              exact gq_le_tr (hl rfl j e1 hj) (e4 i (by omega) he)
            | false => exact absurd he (h6 rfl i (by omega))
        refine gs_aload_n (pc := 35) (gd gk_6 19 rfl) rfl ?_
        refine gs_getR (r := 57) (pc := 36) (gd gk_6 20 rfl) rfl rfl rfl (by decide) ?_
        refine gs_callV (as := []) (pc := 39) (gd gk_6 21 rfl) (by decide) rfl (by decide) rfl rfl (Nat.le_of_ble_eq_true rfl) gq_6_61 (Nat.le_of_ble_eq_true rfl) (c_had (L := L) t2.2.2.1 (by omega)) (fun r_39 w_39 q_39 => ?_)
        obtain ⟨rfl, rfl⟩ := q_39
        refine gs_iload_n (pc := 42) (gd gk_6 22 rfl) rfl ?_
        refine gs_icmp_ne (pc := 43) (gd gk_6 23 rfl) (fun c43 => ?_) (fun c43 => ?_)
        · refine gs_iinc (ls2 := fun v => [(0, .ref (81)), (1, .int (told)), (2, .int (gz_b f)), (3, .int (v)), (4, .int (Int32.ofNat (gz_sn k h0 L L)))]) (pc := 70) (gd gk_6 36 rfl) rfl (by rw [gL_6]; decide) (fun _ => rfl) (1) rfl (fun v3_1 hv3_1 => ?_)
          obtain rfl : v3_1 = Int32.ofNat (k + 1) := hv3_1.trans (by first | rfl | (simp only [Int32.ofNat_add, Int32.ofNat_mul]; rfl) | (simp only [Int32.ofNat_add, Int32.ofNat_mul]))
          refine gs_goto (pc := 73) (gd gk_6 37 rfl) ?_
          -- end 2: stop, pc 4, locals [(0, .ref (81)), (1, .int (told)), (2, .int (gz_b f)), (3, .int (Int32.ofNat (k + 1))), (4, .int (Int32.ofNat (gz_sn k h0 L L)))]
          refine gs_drop [0, 1, 2, 3] rfl (old (.inl ?_))
          rw [← hvk]; exact c43
        · refine gs_iload_n (pc := 46) (gd gk_6 24 rfl) rfl ?_
          refine gs_if_eq (pc := 47) (gd gk_6 25 rfl) (fun c47 => ?_) (fun c47 => ?_)
          · refine gs_aload_n (pc := 62) (gd gk_6 31 rfl) rfl ?_
            refine gs_iload (pc := 63) (gd gk_6 32 rfl) rfl ?_
            refine gs_putI (pc := 65) (gd gk_6 33 rfl) rfl rfl rfl rfl (fun I_1 hI_1 => ?_)
            refine gs_iconst (pc := 68) (gd gk_6 34 rfl) (1) rfl ?_
            refine gs_istore_n (ls2 := fun v => [(0, .ref (81)), (1, .int (told)), (2, .int (v)), (3, .int (Int32.ofNat k)), (4, .int (Int32.ofNat (gz_sn k h0 L L)))]) (pc := 69) (gd gk_6 35 rfl) (by rw [gL_6]; decide) (fun _ => rfl) (fun v2_1 hv2_1 => ?_)
            obtain rfl : v2_1 = Int32.ofNat 1 := hv2_1.trans (by first | rfl | (simp only [Int32.ofNat_add, Int32.ofNat_mul]; rfl) | (simp only [Int32.ofNat_add, Int32.ofNat_mul]))
            refine gs_iinc (ls2 := fun v => [(0, .ref (81)), (1, .int (told)), (2, .int (Int32.ofNat 1)), (3, .int (v)), (4, .int (Int32.ofNat (gz_sn k h0 L L)))]) (pc := 70) (gd gk_6 36 rfl) rfl (by rw [gL_6]; decide) (fun _ => rfl) (1) rfl (fun v3_2 hv3_2 => ?_)
            obtain rfl : v3_2 = Int32.ofNat (k + 1) := hv3_2.trans (by first | rfl | (simp only [Int32.ofNat_add, Int32.ofNat_mul]; rfl) | (simp only [Int32.ofNat_add, Int32.ofNat_mul]))
            refine gs_goto (pc := 73) (gd gk_6 37 rfl) ?_
            -- end 3: stop, pc 4, locals [(0, .ref (81)), (1, .int (told)), (2, .int (Int32.ofNat 1)), (3, .int (Int32.ofNat (k + 1))), (4, .int (Int32.ofNat (gz_sn k h0 L L)))]
            refine gs_drop [0, 1, 2, 3] rfl (new _ (by rw [← hvk]; exact c43) (fun hf => ?_) hI_1)
            rw [gz_b_eq.mp c47] at hf; cases hf
          · obtain ⟨j, hj, e1, e2, e3⟩ := h5 (gz_b_ne.mp c47)
            have hjs := (gz_se_sn h0 (by omega) L (by omega) (by omega) j (by omega)).2
            refine gs_iload (pc := 50) (gd gk_6 26 rfl) rfl ?_
            refine gs_aload_n (pc := 52) (gd gk_6 27 rfl) rfl ?_
            refine gs_getI (pc := 53) (gd gk_6 28 rfl) rfl rfl ?_
            refine gs_as ((Int32.ofNat (gz_sn j h0 L L))) ((by rw [b81]; exact e1)) ?_
            refine gs_callS (as := [.int (Int32.ofNat (gz_sn k h0 L L)), .int ((Int32.ofNat (gz_sn j h0 L L)))]) (pc := 56) (gd gk_6 29 rfl) (by decide) rfl rfl (Nat.le_of_ble_eq_true rfl) gq_6_7 (Nat.le_of_ble_eq_true rfl) (c_small (gz_sn k h0 L L) (gz_sn j h0 L L) hsn.2 hjs) (fun r_56 w_56 q_56 => ?_)
            obtain ⟨rfl, rfl⟩ := q_56
            refine gs_if_eq (pc := 59) (gd gk_6 30 rfl) (fun c59 => ?_) (fun c59 => ?_)
            · refine gs_iinc (ls2 := fun v => [(0, .ref (81)), (1, .int (told)), (2, .int (gz_b f)), (3, .int (v)), (4, .int (Int32.ofNat (gz_sn k h0 L L)))]) (pc := 70) (gd gk_6 36 rfl) rfl (by rw [gL_6]; decide) (fun _ => rfl) (1) rfl (fun v3_3 hv3_3 => ?_)
              obtain rfl : v3_3 = Int32.ofNat (k + 1) := hv3_3.trans (by first | rfl | (simp only [Int32.ofNat_add, Int32.ofNat_mul]; rfl) | (simp only [Int32.ofNat_add, Int32.ofNat_mul]))
              refine gs_goto (pc := 73) (gd gk_6 37 rfl) ?_
              -- end 4: stop, pc 4, locals [(0, .ref (81)), (1, .int (told)), (2, .int (gz_b f)), (3, .int (Int32.ofNat (k + 1))), (4, .int (Int32.ofNat (gz_sn k h0 L L)))]
              refine gs_drop [0, 1, 2, 3] rfl (old (.inr ⟨gz_b_ne.mp c47, fun j2 q1 q2 q3 => ?_⟩))
              have hb := gz_b_eq.mp c59
              simp only [gz_sm, decide_eq_false_iff_not] at hb
              have : gz_sn j h0 L L = gz_sn j2 h0 L L := zinj hjs (gz_se_sn h0 (by omega) L (by omega) (by omega) j2 (by omega)).2 (e1.symm.trans q1)
              rw [← this]; unfold gq_le; omega
            · refine gs_aload_n (pc := 62) (gd gk_6 31 rfl) rfl ?_
              refine gs_iload (pc := 63) (gd gk_6 32 rfl) rfl ?_
              refine gs_putI (pc := 65) (gd gk_6 33 rfl) rfl rfl rfl rfl (fun I_2 hI_2 => ?_)
              refine gs_iconst (pc := 68) (gd gk_6 34 rfl) (1) rfl ?_
              refine gs_istore_n (ls2 := fun v => [(0, .ref (81)), (1, .int (told)), (2, .int (v)), (3, .int (Int32.ofNat k)), (4, .int (Int32.ofNat (gz_sn k h0 L L)))]) (pc := 69) (gd gk_6 35 rfl) (by rw [gL_6]; decide) (fun _ => rfl) (fun v2_2 hv2_2 => ?_)
              obtain rfl : v2_2 = Int32.ofNat 1 := hv2_2.trans (by first | rfl | (simp only [Int32.ofNat_add, Int32.ofNat_mul]; rfl) | (simp only [Int32.ofNat_add, Int32.ofNat_mul]))
              refine gs_iinc (ls2 := fun v => [(0, .ref (81)), (1, .int (told)), (2, .int (Int32.ofNat 1)), (3, .int (v)), (4, .int (Int32.ofNat (gz_sn k h0 L L)))]) (pc := 70) (gd gk_6 36 rfl) rfl (by rw [gL_6]; decide) (fun _ => rfl) (1) rfl (fun v3_4 hv3_4 => ?_)
              obtain rfl : v3_4 = Int32.ofNat (k + 1) := hv3_4.trans (by first | rfl | (simp only [Int32.ofNat_add, Int32.ofNat_mul]; rfl) | (simp only [Int32.ofNat_add, Int32.ofNat_mul]))
              refine gs_goto (pc := 73) (gd gk_6 37 rfl) ?_
              -- end 5: stop, pc 4, locals [(0, .ref (81)), (1, .int (told)), (2, .int (Int32.ofNat 1)), (3, .int (Int32.ofNat (k + 1))), (4, .int (Int32.ofNat (gz_sn k h0 L L)))]
              refine gs_drop [0, 1, 2, 3] rfl (new _ (by rw [← hvk]; exact c43) (fun hf j2 q1 q3 => ?_) hI_2)
              have hb := gz_b_ne.mp c59
              simp only [gz_sm, decide_eq_true_eq] at hb
              have : gz_sn j h0 L L = gz_sn j2 h0 L L := zinj hjs (gz_se_sn h0 (by omega) L (by omega) (by omega) j2 (by omega)).2 (e1.symm.trans q1)
              rw [← this]; unfold gq_le; omega
  refine gs_iconst (pc := 0) (gd gk_6 0 rfl) (0) rfl ?_
  refine gs_istore_n (ls2 := fun v => [(0, .ref (81)), (1, .int (told)), (2, .int (v))]) (pc := 1) (gd gk_6 1 rfl) (by rw [gL_6]; decide) (fun _ => rfl) (fun v2_1 hv2_1 => ?_)
  obtain rfl : v2_1 = Int32.ofNat 0 := hv2_1.trans (by first | rfl | (simp only [Int32.ofNat_add, Int32.ofNat_mul]; rfl) | (simp only [Int32.ofNat_add, Int32.ofNat_mul]))
  refine gs_iconst (pc := 2) (gd gk_6 2 rfl) (0) rfl ?_
  refine gs_istore_n (ls2 := fun v => [(0, .ref (81)), (1, .int (told)), (2, .int (Int32.ofNat 0)), (3, .int (v))]) (pc := 3) (gd gk_6 3 rfl) (by rw [gL_6]; decide) (fun _ => rfl) (fun v3_1 hv3_1 => ?_)
  obtain rfl : v3_1 = Int32.ofNat 0 := hv3_1.trans (by first | rfl | (simp only [Int32.ofNat_add, Int32.ofNat_mul]; rfl) | (simp only [Int32.ofNat_add, Int32.ofNat_mul]))
  -- end 1: stop, pc 4, locals [(0, .ref (81)), (1, .int (told)), (2, .int (Int32.ofNat 0)), (3, .int (Int32.ofNat 0))]
  exact lp (2 ^ L) 0 (by omega) I false hon ⟨fun _ _ _ _ => rfl, rfl, rfl, rfl⟩ rfl rfl (fun h => by cases h) (fun _ i hi => absurd hi (Nat.not_lt_zero _))
section
variable {V : gw_V} {n W N h0 L bc : Nat} {I : Nat → Nat → Int32} {J : Nat → Nat → Int64}
/-- the answer of only, in the words of both -/
def gq_oa (hv : Nat → Int32) (told : Int32) (N h0 L : Nat) (x : Int32) : Prop := if gz_rg told 0 (Int32.ofNat (2 ^ N) - 1) then (∃ p, x = Int32.ofNat p ∧ gq_onl hv told h0 L p) ∨ (x = -99 ∧ ∀ q, gz_su q h0 L → hv q ≠ told) else x = -2
theorem gz_shl6 : ∀ N, N < 7 → (1 : Int32) <<< (Int32.ofNat N &&& 31) = Int32.ofNat (2 ^ N) := by decide +kernel
theorem gz_rgN {N : Nat} (h : N ≤ 6) (t : Int32) : gz_rg t 0 (Int32.ofNat (2 ^ N) - 1) = decide (0 ≤ t ∧ t < 1 <<< (Int32.ofNat N &&& 31)) := by
  rw [gz_shl6 N (by omega)]
  have e1 : (Int32.ofNat (2 ^ N)).toInt = 2 ^ N ∧ (Int32.ofNat (2 ^ N) - 1).toInt = 2 ^ N - 1 := by
    rcases (by omega : N = 0 ∨ N = 1 ∨ N = 2 ∨ N = 3 ∨ N = 4 ∨ N = 5 ∨ N = 6) with rfl | rfl | rfl | rfl | rfl | rfl | rfl <;> decide
  unfold gz_rg
  congr 1
  rw [Int32.le_iff_toInt_le, Int32.le_iff_toInt_le, Int32.lt_iff_toInt_lt, e1.1, e1.2]
  exact propext ⟨fun q => ⟨q.1, by omega⟩, fun q => ⟨q.1, by omega⟩⟩
theorem c_only (told : Int32) (hn : gq_now I W N h0 L bc) : gw_E V 81 (0, [(0, .ref 3), (1, .int told)], [], gS n I J, 0, 0) (fun v w' => ∃ I2 x, w' = gS n I2 J ∧ gq_qf I I2 ∧ gq_oa (gq_hv (gz_S I) N h0 L bc (I 12 1) (I 13)) told N h0 L x ∧ v = some (.int x)) := by
  obtain ⟨hok, hh, hW, hbc, hb9, h78, h79, h69⟩ := hn
  have hN : I 6 4 = Int32.ofNat N := hok.2.2.1
  have hN6 : N ≤ 6 := hok.2.2.2.1
  refine gs_iload_n (pc := 0) (gd gk_81 0 rfl) rfl ?_
  refine gs_if_lt (pc := 1) (gd gk_81 1 rfl) (fun c1 => ?_) (fun c1 => ?_)
  · refine gs_bipush (pc := 17) (gd gk_81 9 rfl) (-2) rfl ?_
    -- end 1: ireturn (-2), pc 19, locals [(0, .ref (3)), (1, .int (told))]
    exact gs_iret (pc := 19) (gd gk_81 10 rfl) rfl (rfl) (Nat.zero_le _) (Nat.zero_le _) (⟨I, -2, rfl, ⟨fun _ _ _ _ => rfl, rfl, rfl, rfl⟩, by
      unfold gq_oa
      rw [gz_rgN hN6, if_neg (by intro q; have q := of_decide_eq_true q; exact absurd c1 (Int32.not_lt.mpr q.1))], rfl⟩)
  · refine gs_iload_n (pc := 4) (gd gk_81 2 rfl) rfl ?_
    refine gs_iconst (pc := 5) (gd gk_81 3 rfl) (1) rfl ?_
    refine gs_aload_n (pc := 6) (gd gk_81 4 rfl) rfl ?_
    refine gs_getR (r := 6) (pc := 7) (gd gk_81 5 rfl) rfl rfl rfl (by decide) ?_
    refine gs_getI (pc := 10) (gd gk_81 6 rfl) rfl rfl ?_
    refine gs_as (Int32.ofNat N) (hN) ?_
    refine gs_ishl (pc := 13) (gd gk_81 7 rfl) ?_
    refine gs_icmp_lt (pc := 14) (gd gk_81 8 rfl) (fun c14 => ?_) (fun c14 => ?_)
    · refine gs_aload_n (pc := 20) (gd gk_81 11 rfl) rfl ?_
      refine gs_getR (r := 57) (pc := 21) (gd gk_81 12 rfl) rfl rfl rfl (by decide) ?_
      refine gs_aload_n (pc := 24) (gd gk_81 13 rfl) rfl ?_
      refine gs_getR (r := 12) (pc := 25) (gd gk_81 14 rfl) rfl rfl rfl (by decide) ?_
      refine gs_aload_n (pc := 28) (gd gk_81 15 rfl) rfl ?_
      refine gs_getR (r := 6) (pc := 29) (gd gk_81 16 rfl) rfl rfl rfl (by decide) ?_
      refine gs_getI (pc := 32) (gd gk_81 17 rfl) rfl rfl ?_
      refine gs_as (Int32.ofNat bc) (hbc) ?_
      refine gs_callV (as := [.ref (12), .int (Int32.ofNat bc)]) (pc := 35) (gd gk_81 18 rfl) (by decide) rfl (by decide) rfl rfl (Nat.le_of_ble_eq_true rfl) gq_81_50 (Nat.le_of_ble_eq_true rfl) (c_start_now bc h0 L hok hh hW hb9 h78 h79 h69) (fun r_35 w_35 q_35 => ?_)
      obtain ⟨rfl, I_s, rfl, s1, s2, s3, s4⟩ := q_35
      refine gs_aload_n (pc := 38) (gd gk_81 19 rfl) rfl ?_
      refine gs_getR (r := 81) (pc := 39) (gd gk_81 20 rfl) rfl rfl rfl (by decide) ?_
      refine gs_iload_n (pc := 42) (gd gk_81 21 rfl) rfl ?_
      refine gs_callV (as := [.int (told)]) (pc := 43) (gd gk_81 22 rfl) (by decide) rfl (by decide) rfl rfl (Nat.le_of_ble_eq_true rfl) gq_81_6 (Nat.le_of_ble_eq_true rfl) (c_findOnly told s2) (fun r_43 w_43 q_43 => ?_)
      obtain ⟨I_t, f, rfl, rfl, t1, t2, t3⟩ := q_43
      rw [gq_qf_S (gq_qf_s s1), s3, gq_hv_c s4 (gq_ok_n hok)] at t2 t3
      refine gs_if_eq (pc := 46) (gd gk_81 23 rfl) (fun c46 => ?_) (fun c46 => ?_)
      · refine gs_bipush (pc := 59) (gd gk_81 28 rfl) (-99) rfl ?_
        -- end 2: ireturn (-99), pc 61, locals [(0, .ref (3)), (1, .int (told))]
        have hr : gz_rg told 0 (Int32.ofNat (2 ^ N) - 1) = true := by rw [gz_rgN hN6]; exact decide_eq_true ⟨Int32.not_lt.mp c1, c14⟩
        exact gs_iret (pc := 61) (gd gk_81 29 rfl) rfl (rfl) (Nat.zero_le _) (Nat.zero_le _) (⟨I_t, -99, rfl, gq_qf_tr (gq_qf_s s1) t1, by
          unfold gq_oa
          rw [if_pos hr]
          exact .inr ⟨rfl, t3 (gz_b_eq.mp c46)⟩, rfl⟩)
      · refine gs_aload_n (pc := 49) (gd gk_81 24 rfl) rfl ?_
        refine gs_getR (r := 81) (pc := 50) (gd gk_81 25 rfl) rfl rfl rfl (by decide) ?_
        refine gs_getI (pc := 53) (gd gk_81 26 rfl) rfl rfl ?_
        refine gs_goto (pc := 56) (gd gk_81 27 rfl) ?_
        -- end 3: ireturn (I_t 81 1), pc 61, locals [(0, .ref (3)), (1, .int (told))]
        have hr : gz_rg told 0 (Int32.ofNat (2 ^ N) - 1) = true := by rw [gz_rgN hN6]; exact decide_eq_true ⟨Int32.not_lt.mp c1, c14⟩
        exact gs_iret (pc := 61) (gd gk_81 29 rfl) rfl (rfl) (Nat.zero_le _) (Nat.zero_le _) (⟨I_t, _, rfl, gq_qf_tr (gq_qf_s s1) t1, by
          unfold gq_oa
          rw [if_pos hr]
          exact .inl (t2 (gz_b_ne.mp c46)), rfl⟩)
    · refine gs_bipush (pc := 17) (gd gk_81 9 rfl) (-2) rfl ?_
      -- end 4: ireturn (-2), pc 19, locals [(0, .ref (3)), (1, .int (told))]
      exact gs_iret (pc := 19) (gd gk_81 10 rfl) rfl (rfl) (Nat.zero_le _) (Nat.zero_le _) (⟨I, -2, rfl, ⟨fun _ _ _ _ => rfl, rfl, rfl, rfl⟩, by
        unfold gq_oa
        rw [gz_rgN hN6, if_neg (by intro q; have q := of_decide_eq_true q; exact absurd q.2 c14)], rfl⟩)
/-- one chimney turned -/
abbrev gq_tc (ch : Int32) (c : Nat) : Int32 := ch ^^^ (1 <<< (Int32.ofNat c &&& 31))
/-- what comes by the best plan, and the best chimney of the first k: in the words of both -/
def gq_bv (val : Nat → Int32) (h0 L : Nat) (x : Int32) : Prop := ∃ p, gq_bst val h0 L p ∧ x = val p
theorem gq_bv_one {val : Nat → Int32} {h0 L : Nat} {x y : Int32} (h1 : gq_bv val h0 L x) (h2 : gq_bv val h0 L y) : x = y := by
  obtain ⟨p, a1, a2⟩ := h1
  obtain ⟨q, b1, b2⟩ := h2
  rw [a2, b2, gq_bst_one a1 b1]
def gq_bc (val : Nat → Int32) (valc : Nat → Nat → Int32) (h0 L : Nat) : Nat → Int32 → Int32 → Prop
  | 0, x, f => gq_bv val h0 L x ∧ f = -99
  | k + 1, x, f => ∃ x0 f0 y, gq_bc val valc h0 L k x0 f0 ∧ gq_bv (valc k) h0 L y ∧ x = (if x0 < y then y else x0) ∧ f = (if x0 < y then Int32.ofNat k else f0)
theorem gq_bc_one {val : Nat → Int32} {valc : Nat → Nat → Int32} {h0 L : Nat} : ∀ {k : Nat} {x y f g : Int32}, gq_bc val valc h0 L k x f → gq_bc val valc h0 L k y g → x = y ∧ f = g
  | 0, x, y, f, g, h1, h2 => ⟨gq_bv_one h1.1 h2.1, h1.2.trans h2.2.symm⟩
  | k + 1, x, y, f, g, h1, h2 => by
    obtain ⟨x0, f0, z, a1, a2, a3, a4⟩ := h1
    obtain ⟨x1, f1, z1, b1, b2, b3, b4⟩ := h2
    obtain ⟨rfl, rfl⟩ := gq_bc_one a1 b1
    obtain rfl := gq_bv_one a2 b2
    exact ⟨a3.trans b3.symm, a4.trans b4.symm⟩
/-- a morning of the class at a -/
def gz_mo (a : Nat) : Prop := ∀ n I J, gw_T (gS n I J) a = 3 ∧ gs_r a 0 = a + 1 ∧ gw_T (gS n I J) (a + 1) = 12 ∧ gw_N (gS n I J) (a + 1) = 10
theorem gz_mo_12 : gz_mo 12 := fun _ _ _ => ⟨rfl, rfl, rfl, rfl⟩
theorem gz_mo_14 : gz_mo 14 := fun _ _ _ => ⟨rfl, rfl, rfl, rfl⟩
theorem gz_mo_a : ∀ k, k < 14 → gz_mo (18 + 2 * k) := by
  have h : ∀ k, k < 14 → (gs_s0.getD (17 + 2 * k) (99, 0)).1 = 3 ∧ gs_r (18 + 2 * k) 0 = 19 + 2 * k ∧ (gs_s0.getD (18 + 2 * k) (99, 0)) = (12, 10) := by decide +kernel
  intro k hk n I J
  obtain ⟨a, b, c⟩ := h k hk
  refine ⟨?_, by rw [b]; omega, ?_, ?_⟩
  · rw [show 18 + 2 * k = (17 + 2 * k) + 1 by omega]; exact a
  · show ((gs_s n).getD _ _).1 = _
    show (gs_s0.getD (18 + 2 * k) (99, 0)).1 = 12
    rw [c]
  · show (gs_s0.getD (18 + 2 * k) (99, 0)).2 = 10
    rw [c]
theorem gz_mo_s : ∀ k, k < 2 → gz_mo (49 + 2 * k) := by
  intro k hk
  rcases (by omega : k = 0 ∨ k = 1) with rfl | rfl
  · exact fun _ _ _ => ⟨rfl, rfl, rfl, rfl⟩
  · exact fun _ _ _ => ⟨rfl, rfl, rfl, rfl⟩
theorem c_copy (a b : Nat) (ha : gz_mo a) (hb : gz_mo b) (hab : a ≠ b) (hab1 : a + 1 ≠ b) (hba1 : b + 1 ≠ a) : gw_E V 15 (0, [(0, .ref a), (1, .ref b)], [], gS n I J, 0, 0) (fun v w' => v = none ∧ ∃ I2, w' = gS n I2 J ∧ (∀ c, c < 10 → I2 (a + 1) c = I (b + 1) c) ∧ I2 a 1 = I b 1 ∧ I2 a 2 = I b 2 ∧ I2 a 3 = I b 3 ∧ ∀ p, p ≠ a → p ≠ a + 1 → I2 p = I p) := by
  refine gs_aload_n (pc := 0) (gd gk_15 0 rfl) rfl ?_
  refine gs_getR (r := b + 1) (pc := 1) (gd gk_15 1 rfl) (hb _ _ _).1 rfl (hb n I J).2.1 (by omega) ?_
  refine gs_iconst (pc := 4) (gd gk_15 2 rfl) (0) rfl ?_
  refine gs_aload_n (pc := 5) (gd gk_15 3 rfl) rfl ?_
  refine gs_getR (r := a + 1) (pc := 6) (gd gk_15 4 rfl) (ha _ _ _).1 rfl (ha n I J).2.1 (by omega) ?_
  refine gs_iconst (pc := 9) (gd gk_15 5 rfl) (0) rfl ?_
  refine gs_bipush (pc := 10) (gd gk_15 6 rfl) (10) rfl ?_
  refine gs_copy gs_sl (pc := 12) (gd gk_15 7 rfl) (by decide) (by decide) (Nat.le_of_ble_eq_true rfl) (hb _ _ _).2.2.1 (ha _ _ _).2.2.1 (by decide) (by decide) (by decide) (by rw [(hb n I J).2.2.2]; decide) (by rw [(ha n I J).2.2.2]; decide) (fun I_1 hI_1 => ?_)
  refine gs_aload_n (pc := 15) (gd gk_15 8 rfl) rfl ?_
  refine gs_aload_n (pc := 16) (gd gk_15 9 rfl) rfl ?_
  refine gs_getI (pc := 17) (gd gk_15 10 rfl) (hb _ _ _).1 rfl ?_
  refine gs_putI (pc := 20) (gd gk_15 11 rfl) (ha _ _ _).1 rfl rfl rfl (fun I_2 hI_2 => ?_)
  refine gs_aload_n (pc := 23) (gd gk_15 12 rfl) rfl ?_
  refine gs_aload_n (pc := 24) (gd gk_15 13 rfl) rfl ?_
  refine gs_getI (pc := 25) (gd gk_15 14 rfl) (hb _ _ _).1 rfl ?_
  refine gs_putI (pc := 28) (gd gk_15 15 rfl) (ha _ _ _).1 rfl rfl rfl (fun I_3 hI_3 => ?_)
  refine gs_aload_n (pc := 31) (gd gk_15 16 rfl) rfl ?_
  refine gs_aload_n (pc := 32) (gd gk_15 17 rfl) rfl ?_
  refine gs_getI (pc := 33) (gd gk_15 18 rfl) (hb _ _ _).1 rfl ?_
  refine gs_putI (pc := 36) (gd gk_15 19 rfl) (ha _ _ _).1 rfl rfl rfl (fun I_4 hI_4 => ?_)
  have e1 : ∀ p, p ≠ a + 1 → I_1 p = I p := fun p hp => by rw [hI_1]; funext z; simp [gw_cp, hp]
  have e2 : ∀ c, c < 10 → I_1 (a + 1) c = I (b + 1) c := fun c hc => by
    have z0 : (0 : Int32).toNatClampNeg = 0 := rfl
    have z10 : (10 : Int32).toNatClampNeg = 10 := rfl
    rw [hI_1]
    simp [gw_cp, va_cpy, z0, z10, hc]
  have e4 : ∀ p, p ≠ a → I_4 p = I_1 p := fun p hp => by rw [hI_4, gw_u_o hp, hI_3, gw_u_o hp, hI_2, gw_u_o hp]
  have eb : I_1 b = I b := e1 b (by omega)
  have e3 : I_4 a 1 = I b 1 ∧ I_4 a 2 = I b 2 ∧ I_4 a 3 = I b 3 := by
    refine ⟨?_, ?_, ?_⟩ <;> subst hI_4 hI_3 hI_2 <;> simp [gw_u, eb, (Ne.symm hab)]
  exact gs_ret (pc := 39) (gd gk_15 20 rfl) rfl (Nat.zero_le _) (Nat.zero_le _) ⟨rfl, I_4, rfl, fun c hc => by rw [e4 _ (by omega)]; exact e2 c hc, e3.1, e3.2.1, e3.2.2, fun p q1 q2 => (e4 p q1).trans (e1 p q2)⟩
end
