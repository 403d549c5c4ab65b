/-! ===== the text: the reference's figure, readNose ===== -/
def gz_op : Option Nat → Int32
  | none => -99
  | some q => Int32.ofNat q
/-- a figure is read: the place behind it, the fault -/
def gm_sx (t : Nat → Int32) (l : Nat) (a b : Int32) (s : Nat × Option Nat) : Nat × Option Nat := match s.2 with
  | none => if gz_rg (gz_la t l s.1 - 48) a b then (s.1 + 1, none) else (s.1, some s.1)
  | some q => (s.1, some q)
def gm_sv (t : Nat → Int32) (l : Nat) (a b : Int32) (s : Nat × Option Nat) : Int32 := match s.2 with
  | none => if gz_rg (gz_la t l s.1 - 48) a b then gz_la t l s.1 - 48 else a
  | some _ => a
/-- the place is in the text, the fault too -/
def gm_so (l : Nat) (s : Nat × Option Nat) : Prop := s.1 ≤ l ∧ ∀ q, s.2 = some q → q ≤ l
theorem gz_rg_m1 {a b : Int32} (ha : 0 ≤ a) : gz_rg (-1) a b = false := gz_rg_f.mpr (fun q => by have := q.1; grind)
theorem gz_la_o {t : Nat → Int32} {l p : Nat} {a b : Int32} (ha : 0 ≤ a) (hp : ¬ p < l) : gz_rg (gz_la t l p - 48) a b = false := by
  unfold gz_la
  rw [if_neg hp]
  exact gz_rg_f.mpr (fun q => by have := q.1; have : ¬ (0 : Int32) ≤ 0 - 48 := by decide
                                 grind)
theorem gm_sx_o {t : Nat → Int32} {l : Nat} {a b : Int32} {s : Nat × Option Nat} (ha : 0 ≤ a) (h : gm_so l s) : gm_so l (gm_sx t l a b s) := by
  obtain ⟨p, f⟩ := s
  obtain ⟨h1, h2⟩ := h
  cases f with
  | none =>
    show gm_so l (if gz_rg (gz_la t l p - 48) a b then (p + 1, none) else (p, some p))
    by_cases e : gz_rg (gz_la t l p - 48) a b = true
    · rw [if_pos e]
      have hp : p < l := by
        by_cases q : p < l
        · exact q
        · rw [gz_la_o ha q] at e; cases e
      exact ⟨hp, fun q hq => by cases hq⟩
    · rw [if_neg e]
      exact ⟨h1, fun q hq => by cases hq; exact h1⟩
  | some q => exact ⟨h1, h2⟩
theorem gm_sx_n {t : Nat → Int32} {l : Nat} {a b : Int32} {s : Nat × Option Nat} (h : (gm_sx t l a b s).2 = none) : s.2 = none ∧ (gm_sx t l a b s).1 = s.1 + 1 ∧ gz_rg (gz_la t l s.1 - 48) a b = true ∧ gm_sv t l a b s = gz_la t l s.1 - 48 := by
  obtain ⟨p, f⟩ := s
  cases f with
  | none =>
    have h : (if gz_rg (gz_la t l p - 48) a b then (p + 1, none) else (p, some p)).2 = none := h
    by_cases e : gz_rg (gz_la t l p - 48) a b = true
    · refine ⟨rfl, ?_, e, ?_⟩
      · show (if gz_rg (gz_la t l p - 48) a b then (p + 1, none) else (p, some p)).1 = _
        rw [if_pos e]
      · show (if gz_rg (gz_la t l p - 48) a b then gz_la t l p - 48 else a) = _
        rw [if_pos e]
    · rw [if_neg e] at h; cases h
  | some q => cases h
section
variable {V : gw_V} {n : Nat} {I : Nat → Nat → Int32} {J : Nat → Nat → Int64}
/-- where the reading stands -/
def gm_at (I : Nat → Nat → Int32) (s : Nat × Option Nat) : Prop := I 126 16 = Int32.ofNat s.1 ∧ I 126 17 = gz_op s.2
theorem m_figure (a b : Int32) (l : Nat) (s : Nat × Option Nat) (ha : 0 ≤ a) (hl : I 126 15 = Int32.ofNat l) (h48 : l ≤ 48) (hs : gm_so l s) (hat : gm_at I s) : gw_E V 112 (0, [(0, .ref 126), (1, .int a), (2, .int b)], [], gS n I J, 0, 0) (fun v w' => v = some (.int (gm_sv (I 134) l a b s)) ∧ ∃ I2, w' = gS n I2 J ∧ gm_at I2 (gm_sx (I 134) l a b s) ∧ (∀ q, q ≠ 126 → I2 q = I q) ∧ ∀ q, q ≠ 16 → q ≠ 17 → I2 126 q = I 126 q) := by
  obtain ⟨p, f⟩ := s
  obtain ⟨h1, h2⟩ := hs
  have h1 : p ≤ l := h1
  obtain ⟨k1, k2⟩ := hat
  have k1 : I 126 16 = Int32.ofNat p := k1
  cases f with
  | none =>
    have k2 : I 126 17 = -99 := k2
    have bad : gz_rg (gz_la (I 134) l p - 48) a b = false → ∀ I2, I2 = gw_u I 126 17 (Int32.ofNat p) → (∃ I3, gS n I2 J = gS n I3 J ∧ gm_at I3 (gm_sx (I 134) l a b (p, none)) ∧ (∀ q, q ≠ 126 → I3 q = I q) ∧ ∀ q, q ≠ 16 → q ≠ 17 → I3 126 q = I 126 q) := by
      intro hb I2 e2
      refine ⟨I2, rfl, ?_, fun q hq => by rw [e2, gw_u_o hq], fun q q1 q2 => by rw [e2, gw_u_s]; unfold upd; rw [if_neg q2]⟩
      show gm_at I2 (if gz_rg (gz_la (I 134) l p - 48) a b then (p + 1, none) else (p, some p))
      rw [if_neg (by rw [hb]; decide)]
      exact ⟨by rw [e2, gw_u_s]; unfold upd; rw [if_neg (by omega)]; exact k1, by rw [e2, gw_u_s]; unfold upd; rw [if_pos rfl]; rfl⟩
    have badv : gz_rg (gz_la (I 134) l p - 48) a b = false → gm_sv (I 134) l a b (p, none) = a := by
      intro hb
      show (if gz_rg (gz_la (I 134) l p - 48) a b then _ else a) = a
      rw [if_neg (by rw [hb]; decide)]
    refine gs_aload_n (pc := 0) (gd gk_112 0 rfl) rfl ?_
    refine gs_getI (pc := 1) (gd gk_112 1 rfl) rfl rfl ?_
    refine gs_as ((-99)) (k2) ?_
    refine gs_bipush (pc := 4) (gd gk_112 2 rfl) (-99) rfl ?_
    refine gs_icmp_ne (pc := 6) (gd gk_112 3 rfl) (fun c6 => ?_) (fun c6 => ?_)
    · refine gs_iconst (pc := 35) (gd gk_112 17 rfl) (-1) rfl ?_
      refine gs_istore_n (ls2 := fun v => [(0, .ref (126)), (1, .int (a)), (2, .int (b)), (3, .int (v))]) (pc := 36) (gd gk_112 18 rfl) (by rw [gL_112]; decide) (fun _ => rfl) (fun v3_1 hv3_1 => ?_)
      refine gs_iload_n (pc := 37) (gd gk_112 19 rfl) rfl ?_
      refine gs_i2l (pc := 38) (gd gk_112 20 rfl) ?_
      refine gs_iload_n (pc := 39) (gd gk_112 21 rfl) rfl ?_
      refine gs_i2l (pc := 40) (gd gk_112 22 rfl) ?_
      refine gs_iload_n (pc := 41) (gd gk_112 23 rfl) rfl ?_
      refine gs_i2l (pc := 42) (gd gk_112 24 rfl) ?_
      refine gs_callS (as := [.long ((v3_1 : Int32).toInt64), .long ((a : Int32).toInt64), .long ((b : Int32).toInt64)]) (pc := 43) (gd gk_112 25 rfl) (by decide) rfl rfl (Nat.le_of_ble_eq_true rfl) gq_112_107 (Nat.le_of_ble_eq_true rfl) (c_mrg (v3_1) (a) (b)) (fun r_43 w_43 q_43 => ?_)
      obtain ⟨rfl, rfl⟩ := q_43
      refine gs_if_ne (pc := 46) (gd gk_112 26 rfl) (fun c46 => ?_) (fun c46 => ?_)
      · refine gs_aload_n (pc := 75) (gd gk_112 40 rfl) rfl ?_
        refine gs_dup (pc := 76) (gd gk_112 41 rfl) rfl ?_
        refine gs_getI (pc := 77) (gd gk_112 42 rfl) rfl rfl ?_
        refine gs_as (Int32.ofNat p) (k1) ?_
        refine gs_iconst (pc := 80) (gd gk_112 43 rfl) (1) rfl ?_
        refine gs_iadd (pc := 81) (gd gk_112 44 rfl) ?_
        refine gs_putI (pc := 82) (gd gk_112 45 rfl) rfl rfl rfl rfl (fun I_1 hI_1 => ?_)
        refine gs_iload_n (pc := 85) (gd gk_112 46 rfl) rfl ?_
        -- end 1: ireturn v3_1, pc 86, locals [(0, .ref (126)), (1, .int (a)), (2, .int (b)), (3, .int (v3_1))]
        exact absurd rfl c6
      · refine gs_aload_n (pc := 49) (gd gk_112 27 rfl) rfl ?_
        refine gs_aload_n (pc := 50) (gd gk_112 28 rfl) rfl ?_
        refine gs_getI (pc := 51) (gd gk_112 29 rfl) rfl rfl ?_
        refine gs_as ((-99)) (k2) ?_
        refine gs_bipush (pc := 54) (gd gk_112 30 rfl) (-99) rfl ?_
        refine gs_icmp_ne (pc := 56) (gd gk_112 31 rfl) (fun c56 => ?_) (fun c56 => ?_)
        · refine gs_aload_n (pc := 66) (gd gk_112 35 rfl) rfl ?_
          refine gs_getI (pc := 67) (gd gk_112 36 rfl) rfl rfl ?_
          refine gs_as ((-99)) (k2) ?_
          refine gs_putI (pc := 70) (gd gk_112 37 rfl) rfl rfl rfl rfl (fun I_2 hI_2 => ?_)
          refine gs_iload_n (pc := 73) (gd gk_112 38 rfl) rfl ?_
          -- end 2: ireturn a, pc 74, locals [(0, .ref (126)), (1, .int (a)), (2, .int (b)), (3, .int (v3_1))]
          exact absurd rfl c6
        · refine gs_aload_n (pc := 59) (gd gk_112 32 rfl) rfl ?_
          refine gs_getI (pc := 60) (gd gk_112 33 rfl) rfl rfl ?_
          refine gs_as (Int32.ofNat p) (k1) ?_
          refine gs_goto (pc := 63) (gd gk_112 34 rfl) ?_
          refine gs_putI (pc := 70) (gd gk_112 37 rfl) rfl rfl rfl rfl (fun I_3 hI_3 => ?_)
          refine gs_iload_n (pc := 73) (gd gk_112 38 rfl) rfl ?_
          -- end 3: ireturn a, pc 74, locals [(0, .ref (126)), (1, .int (a)), (2, .int (b)), (3, .int (v3_1))]
          exact absurd rfl c6
    · refine gs_aload_n (pc := 9) (gd gk_112 4 rfl) rfl ?_
      refine gs_getI (pc := 10) (gd gk_112 5 rfl) rfl rfl ?_
      refine gs_as (Int32.ofNat p) (k1) ?_
      refine gs_aload_n (pc := 13) (gd gk_112 6 rfl) rfl ?_
      refine gs_getI (pc := 14) (gd gk_112 7 rfl) rfl rfl ?_
      refine gs_as (Int32.ofNat l) (hl) ?_
      refine gs_icmp_ge (pc := 17) (gd gk_112 8 rfl) (fun c17 => ?_) (fun c17 => ?_)
      · replace c17 : l ≤ p := (zle (k := l) (m := p) (by omega) (by omega)).mp c17
        refine gs_iconst (pc := 35) (gd gk_112 17 rfl) (-1) rfl ?_
        refine gs_istore_n (ls2 := fun v => [(0, .ref (126)), (1, .int (a)), (2, .int (b)), (3, .int (v))]) (pc := 36) (gd gk_112 18 rfl) (by rw [gL_112]; decide) (fun _ => rfl) (fun v3_2 hv3_2 => ?_)
        refine gs_iload_n (pc := 37) (gd gk_112 19 rfl) rfl ?_
        refine gs_i2l (pc := 38) (gd gk_112 20 rfl) ?_
        refine gs_iload_n (pc := 39) (gd gk_112 21 rfl) rfl ?_
        refine gs_i2l (pc := 40) (gd gk_112 22 rfl) ?_
        refine gs_iload_n (pc := 41) (gd gk_112 23 rfl) rfl ?_
        refine gs_i2l (pc := 42) (gd gk_112 24 rfl) ?_
        refine gs_callS (as := [.long ((v3_2 : Int32).toInt64), .long ((a : Int32).toInt64), .long ((b : Int32).toInt64)]) (pc := 43) (gd gk_112 25 rfl) (by decide) rfl rfl (Nat.le_of_ble_eq_true rfl) gq_112_107 (Nat.le_of_ble_eq_true rfl) (c_mrg (v3_2) (a) (b)) (fun r_43 w_43 q_43 => ?_)
        obtain ⟨rfl, rfl⟩ := q_43
        refine gs_if_ne (pc := 46) (gd gk_112 26 rfl) (fun c46 => ?_) (fun c46 => ?_)
        · refine gs_aload_n (pc := 75) (gd gk_112 40 rfl) rfl ?_
          refine gs_dup (pc := 76) (gd gk_112 41 rfl) rfl ?_
          refine gs_getI (pc := 77) (gd gk_112 42 rfl) rfl rfl ?_
          refine gs_as (Int32.ofNat p) (k1) ?_
          refine gs_iconst (pc := 80) (gd gk_112 43 rfl) (1) rfl ?_
          refine gs_iadd (pc := 81) (gd gk_112 44 rfl) ?_
          refine gs_putI (pc := 82) (gd gk_112 45 rfl) rfl rfl rfl rfl (fun I_4 hI_4 => ?_)
          refine gs_iload_n (pc := 85) (gd gk_112 46 rfl) rfl ?_
          -- end 4: ireturn v3_2, pc 86, locals [(0, .ref (126)), (1, .int (a)), (2, .int (b)), (3, .int (v3_2))]
          rw [hv3_2, gz_rg_m1 ha] at c46
          exact absurd rfl c46
        · refine gs_aload_n (pc := 49) (gd gk_112 27 rfl) rfl ?_
          refine gs_aload_n (pc := 50) (gd gk_112 28 rfl) rfl ?_
          refine gs_getI (pc := 51) (gd gk_112 29 rfl) rfl rfl ?_
          refine gs_as ((-99)) (k2) ?_
          refine gs_bipush (pc := 54) (gd gk_112 30 rfl) (-99) rfl ?_
          refine gs_icmp_ne (pc := 56) (gd gk_112 31 rfl) (fun c56 => ?_) (fun c56 => ?_)
          · refine gs_aload_n (pc := 66) (gd gk_112 35 rfl) rfl ?_
            refine gs_getI (pc := 67) (gd gk_112 36 rfl) rfl rfl ?_
            refine gs_as ((-99)) (k2) ?_
            refine gs_putI (pc := 70) (gd gk_112 37 rfl) rfl rfl rfl rfl (fun I_5 hI_5 => ?_)
            refine gs_iload_n (pc := 73) (gd gk_112 38 rfl) rfl ?_
            -- end 5: ireturn a, pc 74, locals [(0, .ref (126)), (1, .int (a)), (2, .int (b)), (3, .int (v3_2))]
            exact absurd rfl c56
          · refine gs_aload_n (pc := 59) (gd gk_112 32 rfl) rfl ?_
            refine gs_getI (pc := 60) (gd gk_112 33 rfl) rfl rfl ?_
            refine gs_as (Int32.ofNat p) (k1) ?_
            refine gs_goto (pc := 63) (gd gk_112 34 rfl) ?_
            refine gs_putI (pc := 70) (gd gk_112 37 rfl) rfl rfl rfl rfl (fun I_6 hI_6 => ?_)
            refine gs_iload_n (pc := 73) (gd gk_112 38 rfl) rfl ?_
            -- end 6: ireturn a, pc 74, locals [(0, .ref (126)), (1, .int (a)), (2, .int (b)), (3, .int (v3_2))]
            have hb := gz_la_o (t := I 134) (b := b) ha (show ¬ p < l by omega)
            exact gs_iret (pc := 74) (gd gk_112 39 rfl) rfl (rfl) (Nat.zero_le _) (Nat.zero_le _) (⟨by rw [badv hb], bad hb _ hI_6⟩)
      · replace c17 : ¬ (l ≤ p) := fun q9 => c17 ((zle (k := l) (m := p) (by omega) (by omega)).mpr q9)
        refine gs_aload_n (pc := 20) (gd gk_112 9 rfl) rfl ?_
        refine gs_getR (r := 134) (pc := 21) (gd gk_112 10 rfl) rfl rfl rfl (by decide) ?_
        refine gs_aload_n (pc := 24) (gd gk_112 11 rfl) rfl ?_
        refine gs_getI (pc := 25) (gd gk_112 12 rfl) rfl rfl ?_
        refine gs_as (Int32.ofNat p) (k1) ?_
        refine gs_ialoadK (p) (48) (pc := 28) (gd gk_112 13 rfl) (Or.inl rfl) rfl (by decide) (by first | rfl | (simp only [Int32.ofNat_add, Int32.ofNat_mul]; rfl) | (simp only [Int32.ofNat_add, Int32.ofNat_mul])) (by omega) ?_
        refine gs_bipush (pc := 29) (gd gk_112 14 rfl) (48) rfl ?_
        refine gs_isub (pc := 31) (gd gk_112 15 rfl) ?_
        refine gs_goto (pc := 32) (gd gk_112 16 rfl) ?_
        refine gs_istore_n (ls2 := fun v => [(0, .ref (126)), (1, .int (a)), (2, .int (b)), (3, .int (v))]) (pc := 36) (gd gk_112 18 rfl) (by rw [gL_112]; decide) (fun _ => rfl) (fun v3_3 hv3_3 => ?_)
        refine gs_iload_n (pc := 37) (gd gk_112 19 rfl) rfl ?_
        refine gs_i2l (pc := 38) (gd gk_112 20 rfl) ?_
        refine gs_iload_n (pc := 39) (gd gk_112 21 rfl) rfl ?_
        refine gs_i2l (pc := 40) (gd gk_112 22 rfl) ?_
        refine gs_iload_n (pc := 41) (gd gk_112 23 rfl) rfl ?_
        refine gs_i2l (pc := 42) (gd gk_112 24 rfl) ?_
        refine gs_callS (as := [.long ((v3_3 : Int32).toInt64), .long ((a : Int32).toInt64), .long ((b : Int32).toInt64)]) (pc := 43) (gd gk_112 25 rfl) (by decide) rfl rfl (Nat.le_of_ble_eq_true rfl) gq_112_107 (Nat.le_of_ble_eq_true rfl) (c_mrg (v3_3) (a) (b)) (fun r_43 w_43 q_43 => ?_)
        obtain ⟨rfl, rfl⟩ := q_43
        refine gs_if_ne (pc := 46) (gd gk_112 26 rfl) (fun c46 => ?_) (fun c46 => ?_)
        · refine gs_aload_n (pc := 75) (gd gk_112 40 rfl) rfl ?_
          refine gs_dup (pc := 76) (gd gk_112 41 rfl) rfl ?_
          refine gs_getI (pc := 77) (gd gk_112 42 rfl) rfl rfl ?_
          refine gs_as (Int32.ofNat p) (k1) ?_
          refine gs_iconst (pc := 80) (gd gk_112 43 rfl) (1) rfl ?_
          refine gs_iadd (pc := 81) (gd gk_112 44 rfl) ?_
          refine gs_putI (pc := 82) (gd gk_112 45 rfl) rfl rfl rfl rfl (fun I_7 hI_7 => ?_)
          refine gs_iload_n (pc := 85) (gd gk_112 46 rfl) rfl ?_
          -- end 7: ireturn v3_3, pc 86, locals [(0, .ref (126)), (1, .int (a)), (2, .int (b)), (3, .int (v3_3))]
          have e3 : v3_3 = gz_la (I 134) l p - 48 := by rw [hv3_3]; unfold gz_la; rw [if_pos (by omega)]
          rw [e3] at c46
          have hb := gz_b_ne.mp c46
          exact gs_iret (pc := 86) (gd gk_112 47 rfl) rfl (rfl) (Nat.zero_le _) (Nat.zero_le _) (⟨by rw [e3]; show _ = some (Value.int (if gz_rg (gz_la (I 134) l p - 48) a b then gz_la (I 134) l p - 48 else a)); rw [if_pos hb], I_7, rfl, by
            show gm_at I_7 (if gz_rg (gz_la (I 134) l p - 48) a b then (p + 1, none) else (p, some p))
            rw [if_pos hb]
            exact ⟨by rw [hI_7, gw_u_s]; unfold upd; rw [if_pos rfl, zsucc], by rw [hI_7, gw_u_s]; unfold upd; rw [if_neg (by omega)]; exact k2⟩, fun q hq => by rw [hI_7, gw_u_o hq], fun q q1 q2 => by rw [hI_7, gw_u_s]; unfold upd; rw [if_neg q1]⟩)
        · refine gs_aload_n (pc := 49) (gd gk_112 27 rfl) rfl ?_
          refine gs_aload_n (pc := 50) (gd gk_112 28 rfl) rfl ?_
          refine gs_getI (pc := 51) (gd gk_112 29 rfl) rfl rfl ?_
          refine gs_as ((-99)) (k2) ?_
          refine gs_bipush (pc := 54) (gd gk_112 30 rfl) (-99) rfl ?_
          refine gs_icmp_ne (pc := 56) (gd gk_112 31 rfl) (fun c56 => ?_) (fun c56 => ?_)
          · refine gs_aload_n (pc := 66) (gd gk_112 35 rfl) rfl ?_
            refine gs_getI (pc := 67) (gd gk_112 36 rfl) rfl rfl ?_
            refine gs_as ((-99)) (k2) ?_
            refine gs_putI (pc := 70) (gd gk_112 37 rfl) rfl rfl rfl rfl (fun I_8 hI_8 => ?_)
            refine gs_iload_n (pc := 73) (gd gk_112 38 rfl) rfl ?_
            -- end 8: ireturn a, pc 74, locals [(0, .ref (126)), (1, .int (a)), (2, .int (b)), (3, .int (v3_3))]
            exact absurd rfl c56
          · refine gs_aload_n (pc := 59) (gd gk_112 32 rfl) rfl ?_
            refine gs_getI (pc := 60) (gd gk_112 33 rfl) rfl rfl ?_
            refine gs_as (Int32.ofNat p) (k1) ?_
            refine gs_goto (pc := 63) (gd gk_112 34 rfl) ?_
            refine gs_putI (pc := 70) (gd gk_112 37 rfl) rfl rfl rfl rfl (fun I_9 hI_9 => ?_)
            refine gs_iload_n (pc := 73) (gd gk_112 38 rfl) rfl ?_
            -- end 9: ireturn a, pc 74, locals [(0, .ref (126)), (1, .int (a)), (2, .int (b)), (3, .int (v3_3))]
            have e3 : v3_3 = gz_la (I 134) l p - 48 := by rw [hv3_3]; unfold gz_la; rw [if_pos (by omega)]
            rw [e3] at c46
            have hb := gz_b_eq.mp c46
            exact gs_iret (pc := 74) (gd gk_112 39 rfl) rfl (rfl) (Nat.zero_le _) (Nat.zero_le _) (⟨by rw [badv hb], bad hb _ hI_9⟩)
  | some q =>
    have k2 : I 126 17 = Int32.ofNat q := k2
    have hq48 : q ≤ l := h2 q rfl
    have hq99 : ¬ Int32.ofNat q = -99 := fun e => by have := z0 q (by omega); rw [e] at this; exact absurd this (by decide)
    refine gs_aload_n (pc := 0) (gd gk_112 0 rfl) rfl ?_
    refine gs_getI (pc := 1) (gd gk_112 1 rfl) rfl rfl ?_
    refine gs_as (Int32.ofNat q) (k2) ?_
    refine gs_bipush (pc := 4) (gd gk_112 2 rfl) (-99) rfl ?_
    refine gs_icmp_ne (pc := 6) (gd gk_112 3 rfl) (fun c6 => ?_) (fun c6 => ?_)
    · refine gs_iconst (pc := 35) (gd gk_112 17 rfl) (-1) rfl ?_
      refine gs_istore_n (ls2 := fun v => [(0, .ref (126)), (1, .int (a)), (2, .int (b)), (3, .int (v))]) (pc := 36) (gd gk_112 18 rfl) (by rw [gL_112]; decide) (fun _ => rfl) (fun v3_1 hv3_1 => ?_)
      refine gs_iload_n (pc := 37) (gd gk_112 19 rfl) rfl ?_
      refine gs_i2l (pc := 38) (gd gk_112 20 rfl) ?_
      refine gs_iload_n (pc := 39) (gd gk_112 21 rfl) rfl ?_
      refine gs_i2l (pc := 40) (gd gk_112 22 rfl) ?_
      refine gs_iload_n (pc := 41) (gd gk_112 23 rfl) rfl ?_
      refine gs_i2l (pc := 42) (gd gk_112 24 rfl) ?_
      refine gs_callS (as := [.long ((v3_1 : Int32).toInt64), .long ((a : Int32).toInt64), .long ((b : Int32).toInt64)]) (pc := 43) (gd gk_112 25 rfl) (by decide) rfl rfl (Nat.le_of_ble_eq_true rfl) gq_112_107 (Nat.le_of_ble_eq_true rfl) (c_mrg (v3_1) (a) (b)) (fun r_43 w_43 q_43 => ?_)
      obtain ⟨rfl, rfl⟩ := q_43
      refine gs_if_ne (pc := 46) (gd gk_112 26 rfl) (fun c46 => ?_) (fun c46 => ?_)
      · refine gs_aload_n (pc := 75) (gd gk_112 40 rfl) rfl ?_
        refine gs_dup (pc := 76) (gd gk_112 41 rfl) rfl ?_
        refine gs_getI (pc := 77) (gd gk_112 42 rfl) rfl rfl ?_
        refine gs_iconst (pc := 80) (gd gk_112 43 rfl) (1) rfl ?_
        refine gs_iadd (pc := 81) (gd gk_112 44 rfl) ?_
        refine gs_putI (pc := 82) (gd gk_112 45 rfl) rfl rfl rfl rfl (fun I_1 hI_1 => ?_)
        refine gs_iload_n (pc := 85) (gd gk_112 46 rfl) rfl ?_
        -- end 1: ireturn v3_1, pc 86, locals [(0, .ref (126)), (1, .int (a)), (2, .int (b)), (3, .int (v3_1))]
        rw [hv3_1, gz_rg_m1 ha] at c46
        exact absurd rfl c46
      · refine gs_aload_n (pc := 49) (gd gk_112 27 rfl) rfl ?_
        refine gs_aload_n (pc := 50) (gd gk_112 28 rfl) rfl ?_
        refine gs_getI (pc := 51) (gd gk_112 29 rfl) rfl rfl ?_
        refine gs_as (Int32.ofNat q) (k2) ?_
        refine gs_bipush (pc := 54) (gd gk_112 30 rfl) (-99) rfl ?_
        refine gs_icmp_ne (pc := 56) (gd gk_112 31 rfl) (fun c56 => ?_) (fun c56 => ?_)
        · refine gs_aload_n (pc := 66) (gd gk_112 35 rfl) rfl ?_
          refine gs_getI (pc := 67) (gd gk_112 36 rfl) rfl rfl ?_
          refine gs_as (Int32.ofNat q) (k2) ?_
          refine gs_putI (pc := 70) (gd gk_112 37 rfl) rfl rfl rfl rfl (fun I_2 hI_2 => ?_)
          refine gs_iload_n (pc := 73) (gd gk_112 38 rfl) rfl ?_
          -- end 2: ireturn a, pc 74, locals [(0, .ref (126)), (1, .int (a)), (2, .int (b)), (3, .int (v3_1))]
          have o : ∀ x, I_2 126 x = I 126 x := fun x => by
            rw [hI_2, gw_u_s]
            unfold upd
            by_cases e : x = 17
            · rw [if_pos e, e, k2]
            · rw [if_neg e]
          exact gs_iret (pc := 74) (gd gk_112 39 rfl) rfl (rfl) (Nat.zero_le _) (Nat.zero_le _) (⟨rfl, I_2, rfl, ⟨by rw [o]; exact k1, by rw [o]; exact k2⟩, fun x hx => by rw [hI_2, gw_u_o hx], fun x _ _ => o x⟩)
        · refine gs_aload_n (pc := 59) (gd gk_112 32 rfl) rfl ?_
          refine gs_getI (pc := 60) (gd gk_112 33 rfl) rfl rfl ?_
          refine gs_goto (pc := 63) (gd gk_112 34 rfl) ?_
          refine gs_putI (pc := 70) (gd gk_112 37 rfl) rfl rfl rfl rfl (fun I_3 hI_3 => ?_)
          refine gs_iload_n (pc := 73) (gd gk_112 38 rfl) rfl ?_
          -- end 3: ireturn a, pc 74, locals [(0, .ref (126)), (1, .int (a)), (2, .int (b)), (3, .int (v3_1))]
          exact absurd c56 hq99
    · -- end 4: stop, pc 9, locals [(0, .ref (126)), (1, .int (a)), (2, .int (b))]
      exact absurd c6 hq99
end
