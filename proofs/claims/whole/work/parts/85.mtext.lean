/-! ===== the text: the reference's readText, fault ===== -/
/-- what was read of a street's text -/
def gm_ra (t : Nat → Int32) (l W : Nat) (I : Nat → Nat → Int32) : Prop := I 130 1 = gz_la t l 1 - 48 ∧ I 130 2 = gz_la t l 2 - 48 ∧ I 130 3 = gz_la t l 3 - 48 ∧ I 126 11 = Int32.ofNat W ∧ I 126 12 = Int32.ofNat ((l - 4 - W) / 5) ∧ (∀ j, j < W → I 131 j = gz_wo (gz_la t l (4 + j))) ∧ ∀ k, k < (l - 4 - W) / 5 → ∀ c, c < 4 → I 132 (4 * k + c) = gz_la t l (4 + W + 5 * k + 1 + c) - 48
/-- what reading may change -/
def gm_tr (I I2 : Nat → Nat → Int32) : Prop := (∀ p, p ≠ 126 → p ≠ 130 → p ≠ 131 → p ≠ 132 → I2 p = I p) ∧ ∀ q, q ≠ 11 → q ≠ 12 → q ≠ 16 → q ≠ 17 → I2 126 q = I 126 q
theorem gm_tr_q {I I2 : Nat → Nat → Int32} (h : gm_tr I I2) : gm_qf I I2 := ⟨fun p a _ b c d _ _ _ _ _ => h.1 p a b c d, fun q _ => by rw [h.1 133 (by omega) (by omega) (by omega) (by omega)], fun q a b c d _ _ _ _ => h.2 q a b c d⟩
theorem gm_tr_tr {I I2 I3 : Nat → Nat → Int32} (h : gm_tr I I2) (h' : gm_tr I2 I3) : gm_tr I I3 := ⟨fun p a b c d => (h'.1 p a b c d).trans (h.1 p a b c d), fun q a b c d => (h'.2 q a b c d).trans (h.2 q a b c d)⟩
theorem gm_tr_u {I I2 : Nat → Nat → Int32} {k : Nat} {x : Int32} (h : I2 = gw_u I 126 k x) (hk : k = 11 ∨ k = 12 ∨ k = 16 ∨ k = 17) : gm_tr I I2 := ⟨fun p a _ _ _ => by rw [h, gw_u_o a], fun q a b c d => by rw [h, gw_u_s]; unfold upd; rw [if_neg (by omega)]⟩
theorem gm_tr_r {I I2 : Nat → Nat → Int32} {r k : Nat} {x : Int32} (h : I2 = gw_u I r k x) (hr : r = 130 ∨ r = 131 ∨ r = 132) : gm_tr I I2 := ⟨fun p _ b c d => by rw [h, gw_u_o (by omega)], fun q _ _ _ _ => by rw [h, gw_u_o (by omega)]⟩
theorem gm_tr_f {I I2 : Nat → Nat → Int32} (h : ∀ q, q ≠ 126 → I2 q = I q) (h2 : ∀ q, q ≠ 16 → q ≠ 17 → I2 126 q = I 126 q) : gm_tr I I2 := ⟨fun p a _ _ _ => h p a, fun q _ _ a b => h2 q a b⟩
theorem z99 {q : Nat} (h : q < 1000) : ¬ Int32.ofNat q = -99 := fun e => by have := z0 q (by omega); rw [e] at this; exact absurd this (by decide)
section
variable {V : gw_V} {n : Nat} {I : Nat → Nat → Int32} {J : Nat → Nat → Int64}
abbrev mq_tx (n : Nat) (I : Nat → Nat → Int32) (J : Nat → Nat → Int64) (l W : Nat) : Option Value → gw_W → Prop := fun v w' => ∃ y, gz_fp (I 134) l W y ∧ v = some (.int y) ∧ ∃ I2, w' = gS n I2 J ∧ gm_qf I I2 ∧ (y = -99 → gm_ra (I 134) l W I2)
theorem m_readText (l W : Nat) (hT : gz_wT (I 134) l W) (hl : I 126 15 = Int32.ofNat l) (h48 : l ≤ 48) : gw_E V 114 (0, [(0, .ref 126)], [], gS n I J, 0, 0) (mq_tx n I J l W) := by
  generalize ht : I 134 = t at hT
  have hT8 : W ≤ 8 := hT.1
  -- a fault has been found
  have bad2 : ∀ I1 p q, gm_tr I I1 → gm_at I1 (p, some q) → gm_iv t l W (p, some q) → gw_E V 114 (198, [(0, .ref 126)], [], gS n I1 J, 0, 0) (mq_tx n I J l W) := by
    intro I1 p q g1 g2 g3
    have h17 : I1 126 17 = Int32.ofNat q := g2.2
    have hq := (g3.2.2 q rfl).1
    have h99 := z99 (q := q) (by omega)
    refine gs_aload_n (pc := 198) (gd gk_114 107 rfl) rfl ?_
    refine gs_getI (pc := 199) (gd gk_114 108 rfl) rfl rfl ?_
    refine gs_as (Int32.ofNat q) (h17) ?_
    refine gs_bipush (pc := 202) (gd gk_114 109 rfl) (-99) rfl ?_
    refine gs_icmp_ne (pc := 204) (gd gk_114 110 rfl) (fun c204 => ?_) (fun c204 => ?_)
    · refine gs_aload_n (pc := 259) (gd gk_114 135 rfl) rfl ?_
      refine gs_getI (pc := 260) (gd gk_114 136 rfl) rfl rfl ?_
      refine gs_as (Int32.ofNat q) (h17) ?_
      -- end 1: ireturn Int32.ofNat q, pc 263, locals [(0, .ref (126))]
      exact gs_iret (pc := 263) (gd gk_114 137 rfl) rfl (rfl) (Nat.zero_le _) (Nat.zero_le _) (⟨_, by rw [ht]; exact gm_iv_fp g3, rfl, I1, rfl, gm_tr_q g1, fun e => absurd e h99⟩)
    · -- end 2: stop, pc 207, locals [(0, .ref (126))]
      exact absurd c204 h99
  have bad1 : ∀ I1 p q, gm_tr I I1 → gm_at I1 (p, some q) → gm_iv t l W (p, some q) → gw_E V 114 (85, [(0, .ref 126)], [], gS n I1 J, 0, 0) (mq_tx n I J l W) := by
    intro I1 p q g1 g2 g3
    have h17 : I1 126 17 = Int32.ofNat q := g2.2
    have hq := (g3.2.2 q rfl).1
    have h99 := z99 (q := q) (by omega)
    refine gs_aload_n (pc := 85) (gd gk_114 50 rfl) rfl ?_
    refine gs_getI (pc := 86) (gd gk_114 51 rfl) rfl rfl ?_
    refine gs_as (Int32.ofNat q) (h17) ?_
    refine gs_bipush (pc := 89) (gd gk_114 52 rfl) (-99) rfl ?_
    refine gs_icmp_ne (pc := 91) (gd gk_114 53 rfl) (fun c91 => ?_) (fun c91 => ?_)
    · -- end 1: stop, pc 198, locals [(0, .ref (126))]
      exact bad2 I1 p q g1 g2 g3
    · -- end 2: stop, pc 94, locals [(0, .ref (126))]
      exact absurd c91 h99
  -- the noses
  have nlp : ∀ (r k : Nat), r + k = 7 → ∀ I1, gm_tr I I1 → gm_at I1 (4 + W + 5 * k, none) → gm_iv t l W (4 + W + 5 * k, none) → k ≤ 6 → I1 130 1 = gz_la t l 1 - 48 → I1 130 2 = gz_la t l 2 - 48 → I1 130 3 = gz_la t l 3 - 48 → I1 126 11 = Int32.ofNat W → I1 126 12 = Int32.ofNat k → (∀ j, j < W → I1 131 j = gz_wo (gz_la t l (4 + j))) → (∀ i, i < k → ∀ c, c < 4 → I1 132 (4 * i + c) = gz_la t l (4 + W + 5 * i + 1 + c) - 48) → gw_E V 114 (198, [(0, .ref 126)], [], gS n I1 J, 0, 0) (mq_tx n I J l W) := by
    intro r
    induction r with
    | zero => intro k hk I1 _ _ _ h6; omega
    | succ r ih =>
      intro k hk I1 g1 g2 g3 h6 b1 b2 b3 b4 b5 b6 b7
      have h17 : I1 126 17 = -99 := g2.2
      have h16 : I1 126 16 = Int32.ofNat (4 + W + 5 * k) := g2.1
      have h15 : I1 126 15 = Int32.ofNat l := by rw [g1.2 15 (by omega) (by omega) (by omega) (by omega)]; exact hl
      have h134 : I1 134 = t := by rw [g1.1 134 (by omega) (by omega) (by omega) (by omega)]; exact ht
      have hpl : 4 + W + 5 * k ≤ l := g3.1
      have hg : ∀ j, j < 4 + W + 5 * k → gz_fi t l W j = true := g3.2.1 rfl
      have stop : 4 + W + 5 * k < l → ¬ (t (4 + W + 5 * k) = 78 ∧ k < 6) → ∀ I2, I2 = gw_u I1 126 17 (Int32.ofNat (4 + W + 5 * k)) → gw_E V 114 (198, [(0, .ref 126)], [], gS n I2 J, 0, 0) (mq_tx n I J l W) := by
        intro hlt hno I2 e2
        refine bad2 I2 (4 + W + 5 * k) (4 + W + 5 * k) (gm_tr_tr g1 (gm_tr_u e2 (by omega))) ⟨by rw [e2, gw_u_s]; unfold upd; rw [if_neg (by omega)]; exact h16, by rw [e2, gw_u_s]; unfold upd; rw [if_pos rfl]; rfl⟩ ⟨hpl, fun q => (by cases q), fun q hq => ?_⟩
        cases hq
        refine ⟨hpl, hg, fun _ => ?_, fun e => by omega⟩
        by_cases q6 : k < 6
        · rw [gz_fi_n (5 * k) (by omega), show 5 * k % 5 = 0 by omega]
          unfold gz_fn
          rw [if_pos rfl]
          refine decide_eq_false (fun e => hno ⟨?_, q6⟩)
          unfold gz_la at e
          rw [if_pos hlt] at e
          exact e
        · unfold gz_fi
          rw [if_neg (by omega), if_neg (by omega), decide_eq_false (by omega)]; rfl
      refine gs_aload_n (pc := 198) (gd gk_114 107 rfl) rfl ?_
      refine gs_getI (pc := 199) (gd gk_114 108 rfl) rfl rfl ?_
      refine gs_as ((-99)) (h17) ?_
      refine gs_bipush (pc := 202) (gd gk_114 109 rfl) (-99) rfl ?_
      refine gs_icmp_ne (pc := 204) (gd gk_114 110 rfl) (fun c204 => ?_) (fun c204 => ?_)
      · refine gs_aload_n (pc := 259) (gd gk_114 135 rfl) rfl ?_
        refine gs_getI (pc := 260) (gd gk_114 136 rfl) rfl rfl ?_
        refine gs_as ((-99)) (h17) ?_
        -- end 1: ireturn (-99), pc 263, locals [(0, .ref (126))]
        exact absurd rfl c204
      · refine gs_aload_n (pc := 207) (gd gk_114 111 rfl) rfl ?_
        refine gs_getI (pc := 208) (gd gk_114 112 rfl) rfl rfl ?_
        refine gs_as (Int32.ofNat (4 + W + 5 * k)) (h16) ?_
        refine gs_aload_n (pc := 211) (gd gk_114 113 rfl) rfl ?_
        refine gs_getI (pc := 212) (gd gk_114 114 rfl) rfl rfl ?_
        refine gs_as (Int32.ofNat l) (h15) ?_
        refine gs_icmp_ge (pc := 215) (gd gk_114 115 rfl) (fun c215 => ?_) (fun c215 => ?_)
        · replace c215 : l ≤ (4 + W + 5 * k) := (zle (k := l) (m := (4 + W + 5 * k)) (by omega) (by omega)).mp c215
          refine gs_aload_n (pc := 259) (gd gk_114 135 rfl) rfl ?_
          refine gs_getI (pc := 260) (gd gk_114 136 rfl) rfl rfl ?_
          refine gs_as ((-99)) (h17) ?_
          -- end 2: ireturn (-99), pc 263, locals [(0, .ref (126))]
          have e : 4 + W + 5 * k = l := by omega
          exact gs_iret (pc := 263) (gd gk_114 137 rfl) rfl (rfl) (Nat.zero_le _) (Nat.zero_le _) (⟨-99, by
            rw [ht]
            refine .inr ⟨fun j hj => hg j (by omega), ?_⟩
            rw [← e, gz_wh_n, decide_eq_true (by omega)]; rfl, rfl, I1, rfl, gm_tr_q g1, fun _ => by
            have eN : (l - 4 - W) / 5 = k := by omega
            rw [ht]
            exact ⟨b1, b2, b3, b4, by rw [eN]; exact b5, b6, by rw [eN]; exact b7⟩⟩)
        · replace c215 : ¬ (l ≤ (4 + W + 5 * k)) := fun q9 => c215 ((zle (k := l) (m := (4 + W + 5 * k)) (by omega) (by omega)).mpr q9)
          refine gs_aload_n (pc := 218) (gd gk_114 116 rfl) rfl ?_
          refine gs_getR (r := 134) (pc := 219) (gd gk_114 117 rfl) rfl rfl rfl (by decide) ?_
          refine gs_aload_n (pc := 222) (gd gk_114 118 rfl) rfl ?_
          refine gs_getI (pc := 223) (gd gk_114 119 rfl) rfl rfl ?_
          refine gs_as (Int32.ofNat (4 + W + 5 * k)) (h16) ?_
          refine gs_ialoadK ((4 + W + 5 * k)) (48) (pc := 226) (gd gk_114 120 rfl) (Or.inl rfl) rfl (by decide) (by first | rfl | (simp only [Int32.ofNat_add, Int32.ofNat_mul]; rfl) | (simp only [Int32.ofNat_add, Int32.ofNat_mul])) (by omega) ?_
          refine gs_as (t (4 + W + 5 * k)) (by rw [h134]) ?_
          refine gs_bipush (pc := 227) (gd gk_114 121 rfl) (78) rfl ?_
          refine gs_icmp_ne (pc := 229) (gd gk_114 122 rfl) (fun c229 => ?_) (fun c229 => ?_)
          · refine gs_aload_n (pc := 248) (gd gk_114 130 rfl) rfl ?_
            refine gs_aload_n (pc := 249) (gd gk_114 131 rfl) rfl ?_
            refine gs_getI (pc := 250) (gd gk_114 132 rfl) rfl rfl ?_
            refine gs_as (Int32.ofNat (4 + W + 5 * k)) (h16) ?_
            refine gs_putI (pc := 253) (gd gk_114 133 rfl) rfl rfl rfl rfl (fun I_1 hI_1 => ?_)
            refine gs_goto (pc := 256) (gd gk_114 134 rfl) ?_
            -- end 3: stop, pc 198, locals [(0, .ref (126))]
            exact stop (by omega) (fun q9 => c229 q9.1) _ hI_1
          · refine gs_aload_n (pc := 232) (gd gk_114 123 rfl) rfl ?_
            refine gs_getI (pc := 233) (gd gk_114 124 rfl) rfl rfl ?_
            refine gs_as (Int32.ofNat k) (b5) ?_
            refine gs_bipush (pc := 236) (gd gk_114 125 rfl) (6) rfl ?_
            refine gs_icmp_ge (pc := 238) (gd gk_114 126 rfl) (fun c238 => ?_) (fun c238 => ?_)
            · replace c238 : 6 ≤ k := (zle (k := 6) (m := k) (by omega) (by omega)).mp c238
              refine gs_aload_n (pc := 248) (gd gk_114 130 rfl) rfl ?_
              refine gs_aload_n (pc := 249) (gd gk_114 131 rfl) rfl ?_
              refine gs_getI (pc := 250) (gd gk_114 132 rfl) rfl rfl ?_
              refine gs_as (Int32.ofNat (4 + W + 5 * k)) (h16) ?_
              refine gs_putI (pc := 253) (gd gk_114 133 rfl) rfl rfl rfl rfl (fun I_2 hI_2 => ?_)
              refine gs_goto (pc := 256) (gd gk_114 134 rfl) ?_
              -- end 4: stop, pc 198, locals [(0, .ref (126))]
              exact stop (by omega) (fun q9 => absurd q9.2 (by omega)) _ hI_2
            · replace c238 : ¬ (6 ≤ k) := fun q9 => c238 ((zle (k := 6) (m := k) (by omega) (by omega)).mpr q9)
              refine gs_aload_n (pc := 241) (gd gk_114 127 rfl) rfl ?_
              refine gs_callV (as := []) (pc := 242) (gd gk_114 128 rfl) (by decide) rfl (by decide) rfl rfl (Nat.le_of_ble_eq_true rfl) gq_114_115 (Nat.le_of_ble_eq_true rfl) (m_readNose t h134 l (4 + W + 5 * k) k h15 h48 (by omega) g2 b5 (by omega)) (fun r_242 w_242 q_242 => ?_)
              obtain ⟨rfl, I_n, rfl, n1, n2, n3, n4, n5, n6, n7, n8, n9⟩ := q_242
              refine gs_goto (pc := 245) (gd gk_114 129 rfl) ?_
              -- end 5: stop, pc 198, locals [(0, .ref (126))]
              have hN1 : t (4 + W + 5 * k) = 78 := c229
              have tr : gm_tr I I_n := gm_tr_tr g1 ⟨fun p q1 _ _ q4 => n8 p q1 q4, fun q _ q2 q3 q4 => n9 q q2 q3 q4⟩
              have p0 : gz_fi t l W (4 + W + 5 * k) = true := by
                rw [gz_fi_n (5 * k) (by omega), show 5 * k % 5 = 0 by omega]
                unfold gz_fn
                rw [if_pos rfl]
                refine decide_eq_true ?_
                unfold gz_la
                rw [if_pos (by omega)]
                exact hN1
              have fiat : ∀ c, c < 4 → gz_fi t l W (4 + W + 5 * k + 1 + c) = gz_rg (gz_la t l (4 + W + 5 * k + 1 + c) - 48) (if c = 1 then 1 else 0) (if c = 3 then 3 else 9) := by
                intro c hc
                rw [show 4 + W + 5 * k + 1 + c = 4 + W + (5 * k + 1 + c) by omega, gz_fi_n (5 * k + 1 + c) (by omega), show (5 * k + 1 + c) % 5 = c + 1 by omega]
                unfold gz_fn
                rw [if_neg (by omega)]
                congr 1
                · by_cases e : c = 1
                  · rw [if_pos e, if_pos (by omega)]
                  · rw [if_neg e, if_neg (by omega)]
                · by_cases e : c = 3
                  · rw [if_pos e, if_pos (by omega)]
                  · rw [if_neg e, if_neg (by omega)]
              have what : ∀ c, c < 4 → 4 + W + 5 * k + 1 + c = l → gz_wh l W = false := by
                intro c hc e
                rw [← e, show 4 + W + 5 * k + 1 + c = 4 + W + (5 * k + 1 + c) by omega, gz_wh_n]
                exact decide_eq_false (by omega)
              have v0 : gm_iv t l W (4 + W + 5 * k + 1, none) := ⟨by show 4 + W + 5 * k + 1 ≤ l; omega, fun _ j hj => by
                have hj : j < 4 + W + 5 * k + 1 := hj
                by_cases e : j = 4 + W + 5 * k
                · rw [e]; exact p0
                · exact hg j (by omega), fun q hq => by cases hq⟩
              have v1 : gm_iv t l W (gm_n1 t l (4 + W + 5 * k)) := gm_iv_x (by decide) v0 (fun _ _ => fiat 0 (by omega)) (fun _ e => what 0 (by omega) e)
              have a1 : (gm_n1 t l (4 + W + 5 * k)).2 = none → (gm_n1 t l (4 + W + 5 * k)).1 = 4 + W + 5 * k + 1 + 1 := fun h => (gm_sx_n h).2.1
              have v2 : gm_iv t l W (gm_n2 t l (4 + W + 5 * k)) := gm_iv_x (by decide) v1 (fun h _ => by rw [a1 h]; exact fiat 1 (by omega)) (fun h e => by rw [a1 h] at e; exact what 1 (by omega) e)
              have a2 : (gm_n2 t l (4 + W + 5 * k)).2 = none → (gm_n1 t l (4 + W + 5 * k)).2 = none ∧ (gm_n2 t l (4 + W + 5 * k)).1 = 4 + W + 5 * k + 1 + 2 := fun h => by
                have := gm_sx_n h
                exact ⟨this.1, this.2.1.trans (by rw [a1 this.1])⟩
              have v3 : gm_iv t l W (gm_n3 t l (4 + W + 5 * k)) := gm_iv_x (by decide) v2 (fun h _ => by rw [(a2 h).2]; exact fiat 2 (by omega)) (fun h e => by rw [(a2 h).2] at e; exact what 2 (by omega) e)
              have a3 : (gm_n3 t l (4 + W + 5 * k)).2 = none → (gm_n2 t l (4 + W + 5 * k)).2 = none ∧ (gm_n3 t l (4 + W + 5 * k)).1 = 4 + W + 5 * k + 1 + 3 := fun h => by
                have := gm_sx_n h
                exact ⟨this.1, this.2.1.trans (by rw [(a2 this.1).2])⟩
              have v4 : gm_iv t l W (gm_n4 t l (4 + W + 5 * k)) := gm_iv_x (by decide) v3 (fun h _ => by rw [(a3 h).2]; exact fiat 3 (by omega)) (fun h e => by rw [(a3 h).2] at e; exact what 3 (by omega) e)
              rcases hs : gm_n4 t l (4 + W + 5 * k) with ⟨p9, f9⟩
              rw [hs] at n1 v4
              cases f9 with
              | some q9 => exact bad2 I_n p9 q9 tr n1 v4
              | none =>
                have h4 : (gm_n4 t l (4 + W + 5 * k)).2 = none := by rw [hs]
                have x4 := gm_sx_n h4
                have y3 := a3 x4.1
                have x3 := gm_sx_n x4.1
                have y2 := a2 x3.1
                have x2 := gm_sx_n x3.1
                have y1 := a1 x2.1
                have x1 := gm_sx_n x2.1
                have hp9 : p9 = 4 + W + 5 * (k + 1) := by
                  have e4 : (gm_n4 t l (4 + W + 5 * k)).1 = 4 + W + 5 * k + 1 + 3 + 1 := x4.2.1.trans (by rw [y3.2])
                  rw [hs] at e4
                  have e4 : p9 = 4 + W + 5 * k + 1 + 3 + 1 := e4
                  omega
                subst hp9
                have r0 : I_n 132 (4 * k) = gz_la t l (4 + W + 5 * k + 1) - 48 := n3.trans x1.2.2.2
                have r1 : I_n 132 (4 * k + 1) = gz_la t l (4 + W + 5 * k + 1 + 1) - 48 := (n4.trans x2.2.2.2).trans (by rw [y1])
                have r2 : I_n 132 (4 * k + 2) = gz_la t l (4 + W + 5 * k + 1 + 2) - 48 := (n5.trans x3.2.2.2).trans (by rw [y2.2])
                have r3 : I_n 132 (4 * k + 3) = gz_la t l (4 + W + 5 * k + 1 + 3) - 48 := (n6.trans x4.2.2.2).trans (by rw [y3.2])
                have h16 : k + 1 ≤ 6 := by omega
                refine ih (k + 1) (by omega) I_n tr n1 v4 h16 (by rw [n8 130 (by omega) (by omega)]; exact b1) (by rw [n8 130 (by omega) (by omega)]; exact b2) (by rw [n8 130 (by omega) (by omega)]; exact b3) (by rw [n9 11 (by omega) (by omega) (by omega)]; exact b4) n2 (fun j hj => by rw [n8 131 (by omega) (by omega)]; exact b6 j hj) (fun i hi c hc => ?_)
                by_cases e : i = k
                · subst e
                  have : c = 0 ∨ c = 1 ∨ c = 2 ∨ c = 3 := by omega
                  rcases this with e | e | e | e <;> subst e
                  · exact r0
                  · exact r1
                  · exact r2
                  · exact r3
                · rw [n7 _ (by omega)]; exact b7 i (by omega) c hc
  -- the winds
  have wlp : ∀ (r w : Nat), r + w = 8 → ∀ I1, gm_tr I I1 → gm_at I1 (4 + w, none) → gm_iv t l W (4 + w, none) → I1 130 1 = gz_la t l 1 - 48 → I1 130 2 = gz_la t l 2 - 48 → I1 130 3 = gz_la t l 3 - 48 → I1 126 11 = Int32.ofNat w → I1 126 12 = Int32.ofNat 0 → w ≤ W → (∀ j, j < w → gz_iw (gz_la t l (4 + j)) = true) → (∀ j, j < w → I1 131 j = gz_wo (gz_la t l (4 + j))) → gw_E V 114 (85, [(0, .ref 126)], [], gS n I1 J, 0, 0) (mq_tx n I J l W) := by
    intro r
    have leave : ∀ w I1, gm_tr I I1 → gm_at I1 (4 + w, none) → gm_iv t l W (4 + w, none) → I1 130 1 = gz_la t l 1 - 48 → I1 130 2 = gz_la t l 2 - 48 → I1 130 3 = gz_la t l 3 - 48 → I1 126 11 = Int32.ofNat w → I1 126 12 = Int32.ofNat 0 → w ≤ 8 → (∀ j, j < w → gz_iw (gz_la t l (4 + j)) = true) → (∀ j, j < w → I1 131 j = gz_wo (gz_la t l (4 + j))) → (w = 8 ∨ gz_iw (gz_la t l (4 + w)) = false) → gw_E V 114 (198, [(0, .ref 126)], [], gS n I1 J, 0, 0) (mq_tx n I J l W) := by
      intro w I1 g1 g2 g3 b1 b2 b3 b4 b5 hw hiw b6 hend
      obtain rfl : w = W := gz_wT_one ⟨hw, hiw, hend⟩ hT
      exact nlp 7 0 (by omega) I1 g1 g2 g3 (by omega) b1 b2 b3 b4 b5 b6 (fun i hi => absurd hi (Nat.not_lt_zero _))
    induction r with
    | zero =>
      intro w hw I1 g1 g2 g3 b1 b2 b3 b4 b5 hwW hiw b6
      obtain rfl : w = 8 := by omega
      have h17 : I1 126 17 = -99 := g2.2
      have h16 : I1 126 16 = Int32.ofNat (4 + 8) := g2.1
      have h15 : I1 126 15 = Int32.ofNat l := by rw [g1.2 15 (by omega) (by omega) (by omega) (by omega)]; exact hl
      refine gs_aload_n (pc := 85) (gd gk_114 50 rfl) rfl ?_
      refine gs_getI (pc := 86) (gd gk_114 51 rfl) rfl rfl ?_
      refine gs_as ((-99)) (h17) ?_
      refine gs_bipush (pc := 89) (gd gk_114 52 rfl) (-99) rfl ?_
      refine gs_icmp_ne (pc := 91) (gd gk_114 53 rfl) (fun c91 => ?_) (fun c91 => ?_)
      · -- end 1: stop, pc 198, locals [(0, .ref (126))]
        exact absurd rfl c91
      · refine gs_aload_n (pc := 94) (gd gk_114 54 rfl) rfl ?_
        refine gs_getI (pc := 95) (gd gk_114 55 rfl) rfl rfl ?_
        refine gs_as (Int32.ofNat 12) (h16) ?_
        refine gs_aload_n (pc := 98) (gd gk_114 56 rfl) rfl ?_
        refine gs_getI (pc := 99) (gd gk_114 57 rfl) rfl rfl ?_
        refine gs_as (Int32.ofNat l) (h15) ?_
        refine gs_icmp_ge (pc := 102) (gd gk_114 58 rfl) (fun c102 => ?_) (fun c102 => ?_)
        · replace c102 : l ≤ 12 := (zle (k := l) (m := 12) (by omega) (by omega)).mp c102
          -- end 2: stop, pc 198, locals [(0, .ref (126))]
          exact leave 8 I1 g1 g2 g3 b1 b2 b3 b4 b5 (by omega) hiw b6 (.inl rfl)
        · replace c102 : ¬ (l ≤ 12) := fun q9 => c102 ((zle (k := l) (m := 12) (by omega) (by omega)).mpr q9)
          refine gs_aload_n (pc := 105) (gd gk_114 59 rfl) rfl ?_
          refine gs_getI (pc := 106) (gd gk_114 60 rfl) rfl rfl ?_
          refine gs_as (Int32.ofNat 8) (b4) ?_
          refine gs_bipush (pc := 109) (gd gk_114 61 rfl) (8) rfl ?_
          refine gs_icmp_ge (pc := 111) (gd gk_114 62 rfl) (fun c111 => ?_) (fun c111 => ?_)
          · replace c111 : 8 ≤ 8 := (zle (k := 8) (m := 8) (by omega) (by omega)).mp c111
            -- end 3: stop, pc 198, locals [(0, .ref (126))]
            exact leave 8 I1 g1 g2 g3 b1 b2 b3 b4 b5 (by omega) hiw b6 (.inl rfl)
          · replace c111 : ¬ (8 ≤ 8) := fun q9 => c111 ((zle (k := 8) (m := 8) (by omega) (by omega)).mpr q9)
            -- end 4: stop, pc 114, locals [(0, .ref (126))]
            exact absurd (Nat.le_refl 8) c111
    | succ r ih =>
      intro w hw I1 g1 g2 g3 b1 b2 b3 b4 b5 hwW hiw b6
      have h17 : I1 126 17 = -99 := g2.2
      have h16 : I1 126 16 = Int32.ofNat (4 + w) := g2.1
      have h15 : I1 126 15 = Int32.ofNat l := by rw [g1.2 15 (by omega) (by omega) (by omega) (by omega)]; exact hl
      have h134 : I1 134 = t := by rw [g1.1 134 (by omega) (by omega) (by omega) (by omega)]; exact ht
      have hpl : 4 + w ≤ l := g3.1
      have more : 4 + w < l → gz_iw (t (4 + w)) = true → ∀ x, x = gz_wo (t (4 + w)) → gw_E V 114 (174, [(0, .ref 126)], [.int x, .int (Int32.ofNat w), .ref 131], gS n I1 J, 0, 0) (mq_tx n I J l W) := by
        intro hlt hi x hx
        have hla : gz_la t l (4 + w) = t (4 + w) := by unfold gz_la; rw [if_pos hlt]
        have hw1 : w + 1 ≤ W := by
          rcases Nat.lt_or_ge w W with q | q
          · exact q
          · obtain rfl : w = W := by omega
            rcases hT.2.2 with e | e
            · omega
            · rw [hla, hi] at e; cases e
        refine gs_iastoreK (w) (8) gs_sl (pc := 174) (gd gk_114 93 rfl) rfl rfl (by decide) (by first | rfl | (simp only [Int32.ofNat_add, Int32.ofNat_mul]; rfl) | (simp only [Int32.ofNat_add, Int32.ofNat_mul])) (by omega) (fun I_1 hI_1 => ?_)
        refine gs_aload_n (pc := 175) (gd gk_114 94 rfl) rfl ?_
        refine gs_dup (pc := 176) (gd gk_114 95 rfl) rfl ?_
        refine gs_getI (pc := 177) (gd gk_114 96 rfl) rfl rfl ?_
        refine gs_as (Int32.ofNat w) (by rw [hI_1, gw_u_o (by omega)]; exact b4) ?_
        refine gs_iconst (pc := 180) (gd gk_114 97 rfl) (1) rfl ?_
        refine gs_iadd (pc := 181) (gd gk_114 98 rfl) ?_
        refine gs_putI (pc := 182) (gd gk_114 99 rfl) rfl rfl rfl rfl (fun I_2 hI_2 => ?_)
        refine gs_aload_n (pc := 185) (gd gk_114 100 rfl) rfl ?_
        refine gs_dup (pc := 186) (gd gk_114 101 rfl) rfl ?_
        refine gs_getI (pc := 187) (gd gk_114 102 rfl) rfl rfl ?_
        refine gs_as (Int32.ofNat (4 + w)) (by rw [hI_2, gw_u_s]; unfold upd; rw [if_neg (by omega), hI_1, gw_u_o (by omega)]; exact h16) ?_
        refine gs_iconst (pc := 190) (gd gk_114 103 rfl) (1) rfl ?_
        refine gs_iadd (pc := 191) (gd gk_114 104 rfl) ?_
        refine gs_putI (pc := 192) (gd gk_114 105 rfl) rfl rfl rfl rfl (fun I_3 hI_3 => ?_)
        refine gs_goto (pc := 195) (gd gk_114 106 rfl) ?_
        -- end 1: stop, pc 85, locals [(0, .ref (126))]
        have o : ∀ q, q ≠ 11 → q ≠ 16 → I_3 126 q = I1 126 q := fun q q1 q2 => by rw [hI_3, gw_u_s]; unfold upd; rw [if_neg q2, hI_2, gw_u_s]; unfold upd; rw [if_neg q1, hI_1, gw_u_o (by omega)]
        have o2 : ∀ p, p ≠ 126 → p ≠ 131 → I_3 p = I1 p := fun p q1 q2 => by rw [hI_3, gw_u_o q1, hI_2, gw_u_o q1, hI_1, gw_u_o q2]
        have o3 : I_3 131 = upd (I1 131) w x := by rw [hI_3, gw_u_o (by omega), hI_2, gw_u_o (by omega), hI_1, gw_u_s]
        refine ih (w + 1) (by omega) I_3 (gm_tr_tr g1 (gm_tr_tr (gm_tr_r hI_1 (by omega)) (gm_tr_tr (gm_tr_u hI_2 (by omega)) (gm_tr_u hI_3 (by omega))))) ⟨by rw [hI_3, gw_u_s]; unfold upd; rw [if_pos rfl, ← zsucc]; rfl, by rw [o 17 (by omega) (by omega)]; exact h17⟩ ⟨by show 4 + (w + 1) ≤ l; omega, fun _ j hj => ?_, fun q hq => by cases hq⟩ (by rw [o2 130 (by omega) (by omega)]; exact b1) (by rw [o2 130 (by omega) (by omega)]; exact b2) (by rw [o2 130 (by omega) (by omega)]; exact b3) (by rw [hI_3, gw_u_s]; unfold upd; rw [if_neg (by omega), hI_2, gw_u_s]; unfold upd; rw [if_pos rfl, zsucc]) (by rw [o 12 (by omega) (by omega)]; exact b5) hw1 (fun j hj => ?_) (fun j hj => ?_)
        · have hj : j < 4 + (w + 1) := hj
          by_cases e : j = 4 + w
          · unfold gz_fi; rw [if_neg (by omega), if_pos (by omega)]
          · exact g3.2.1 rfl j (by show j < 4 + w; omega)
        · by_cases e : j = w
          · rw [e, hla]; exact hi
          · exact hiw j (by omega)
        · rw [o3]; unfold upd
          by_cases e : j = w
          · rw [if_pos e, e, hla, hx]
          · rw [if_neg e]; exact b6 j (by omega)
      refine gs_aload_n (pc := 85) (gd gk_114 50 rfl) rfl ?_
      refine gs_getI (pc := 86) (gd gk_114 51 rfl) rfl rfl ?_
      refine gs_as ((-99)) (h17) ?_
      refine gs_bipush (pc := 89) (gd gk_114 52 rfl) (-99) rfl ?_
      refine gs_icmp_ne (pc := 91) (gd gk_114 53 rfl) (fun c91 => ?_) (fun c91 => ?_)
      · -- end 1: stop, pc 198, locals [(0, .ref (126))]
        exact absurd rfl c91
      · refine gs_aload_n (pc := 94) (gd gk_114 54 rfl) rfl ?_
        refine gs_getI (pc := 95) (gd gk_114 55 rfl) rfl rfl ?_
        refine gs_as (Int32.ofNat (4 + w)) (h16) ?_
        refine gs_aload_n (pc := 98) (gd gk_114 56 rfl) rfl ?_
        refine gs_getI (pc := 99) (gd gk_114 57 rfl) rfl rfl ?_
        refine gs_as (Int32.ofNat l) (h15) ?_
        refine gs_icmp_ge (pc := 102) (gd gk_114 58 rfl) (fun c102 => ?_) (fun c102 => ?_)
        · replace c102 : l ≤ (4 + w) := (zle (k := l) (m := (4 + w)) (by omega) (by omega)).mp c102
          -- end 2: stop, pc 198, locals [(0, .ref (126))]
          exact leave w I1 g1 g2 g3 b1 b2 b3 b4 b5 (by omega) hiw b6 (.inr (by unfold gz_la; rw [if_neg (by omega)]; rfl))
        · replace c102 : ¬ (l ≤ (4 + w)) := fun q9 => c102 ((zle (k := l) (m := (4 + w)) (by omega) (by omega)).mpr q9)
          refine gs_aload_n (pc := 105) (gd gk_114 59 rfl) rfl ?_
          refine gs_getI (pc := 106) (gd gk_114 60 rfl) rfl rfl ?_
          refine gs_as (Int32.ofNat w) (b4) ?_
          refine gs_bipush (pc := 109) (gd gk_114 61 rfl) (8) rfl ?_
          refine gs_icmp_ge (pc := 111) (gd gk_114 62 rfl) (fun c111 => ?_) (fun c111 => ?_)
          · replace c111 : 8 ≤ w := (zle (k := 8) (m := w) (by omega) (by omega)).mp c111
            -- end 3: stop, pc 198, locals [(0, .ref (126))]
            exact absurd c111 (by omega)
          · replace c111 : ¬ (8 ≤ w) := fun q9 => c111 ((zle (k := 8) (m := w) (by omega) (by omega)).mpr q9)
            refine gs_aload_n (pc := 114) (gd gk_114 63 rfl) rfl ?_
            refine gs_getR (r := 134) (pc := 115) (gd gk_114 64 rfl) rfl rfl rfl (by decide) ?_
            refine gs_aload_n (pc := 118) (gd gk_114 65 rfl) rfl ?_
            refine gs_getI (pc := 119) (gd gk_114 66 rfl) rfl rfl ?_
            refine gs_as (Int32.ofNat (4 + w)) (h16) ?_
            refine gs_ialoadK ((4 + w)) (48) (pc := 122) (gd gk_114 67 rfl) (Or.inl rfl) rfl (by decide) (by first | rfl | (simp only [Int32.ofNat_add, Int32.ofNat_mul]; rfl) | (simp only [Int32.ofNat_add, Int32.ofNat_mul])) (by omega) ?_
            refine gs_as (t (4 + w)) (by rw [h134]) ?_
            refine gs_callS (as := [.int (t (4 + w))]) (pc := 123) (gd gk_114 68 rfl) (by decide) rfl rfl (Nat.le_of_ble_eq_true rfl) gq_114_113 (Nat.le_of_ble_eq_true rfl) (m_isWind (t (4 + w))) (fun r_123 w_123 q_123 => ?_)
            obtain ⟨rfl, rfl⟩ := q_123
            refine gs_if_eq (pc := 126) (gd gk_114 69 rfl) (fun c126 => ?_) (fun c126 => ?_)
            · -- end 4: stop, pc 198, locals [(0, .ref (126))]
              exact leave w I1 g1 g2 g3 b1 b2 b3 b4 b5 (by omega) hiw b6 (.inr (by unfold gz_la; rw [if_pos (by omega)]; exact gz_b_eq.mp c126))
            · refine gs_aload_n (pc := 129) (gd gk_114 70 rfl) rfl ?_
              refine gs_getR (r := 131) (pc := 130) (gd gk_114 71 rfl) rfl rfl rfl (by decide) ?_
              refine gs_aload_n (pc := 133) (gd gk_114 72 rfl) rfl ?_
              refine gs_getI (pc := 134) (gd gk_114 73 rfl) rfl rfl ?_
              refine gs_as (Int32.ofNat w) (b4) ?_
              refine gs_aload_n (pc := 137) (gd gk_114 74 rfl) rfl ?_
              refine gs_getR (r := 134) (pc := 138) (gd gk_114 75 rfl) rfl rfl rfl (by decide) ?_
              refine gs_aload_n (pc := 141) (gd gk_114 76 rfl) rfl ?_
              refine gs_getI (pc := 142) (gd gk_114 77 rfl) rfl rfl ?_
              refine gs_as (Int32.ofNat (4 + w)) (h16) ?_
              refine gs_ialoadK ((4 + w)) (48) (pc := 145) (gd gk_114 78 rfl) (Or.inl rfl) rfl (by decide) (by first | rfl | (simp only [Int32.ofNat_add, Int32.ofNat_mul]; rfl) | (simp only [Int32.ofNat_add, Int32.ofNat_mul])) (by omega) ?_
              refine gs_as (t (4 + w)) (by rw [h134]) ?_
              refine gs_bipush (pc := 146) (gd gk_114 79 rfl) (69) rfl ?_
              refine gs_icmp_ne (pc := 148) (gd gk_114 80 rfl) (fun c148 => ?_) (fun c148 => ?_)
              · refine gs_aload_n (pc := 155) (gd gk_114 83 rfl) rfl ?_
                refine gs_getR (r := 134) (pc := 156) (gd gk_114 84 rfl) rfl rfl rfl (by decide) ?_
                refine gs_aload_n (pc := 159) (gd gk_114 85 rfl) rfl ?_
                refine gs_getI (pc := 160) (gd gk_114 86 rfl) rfl rfl ?_
                refine gs_as (Int32.ofNat (4 + w)) (h16) ?_
                refine gs_ialoadK ((4 + w)) (48) (pc := 163) (gd gk_114 87 rfl) (Or.inl rfl) rfl (by decide) (by first | rfl | (simp only [Int32.ofNat_add, Int32.ofNat_mul]; rfl) | (simp only [Int32.ofNat_add, Int32.ofNat_mul])) (by omega) ?_
                refine gs_as (t (4 + w)) (by rw [h134]) ?_
                refine gs_bipush (pc := 164) (gd gk_114 88 rfl) (87) rfl ?_
                refine gs_icmp_ne (pc := 166) (gd gk_114 89 rfl) (fun c166 => ?_) (fun c166 => ?_)
                · refine gs_iconst (pc := 173) (gd gk_114 92 rfl) (0) rfl ?_
                  -- end 5: stop, pc 174, locals [(0, .ref (126))]
                  exact more (by omega) (gz_b_ne.mp c126) _ (by unfold gz_wo; rw [if_neg c148, if_neg c166])
                · refine gs_iconst (pc := 169) (gd gk_114 90 rfl) (-1) rfl ?_
                  refine gs_goto (pc := 170) (gd gk_114 91 rfl) ?_
                  -- end 6: stop, pc 174, locals [(0, .ref (126))]
                  exact more (by omega) (gz_b_ne.mp c126) _ (by unfold gz_wo; rw [if_neg c148, if_pos c166])
              · refine gs_iconst (pc := 151) (gd gk_114 81 rfl) (1) rfl ?_
                refine gs_goto (pc := 152) (gd gk_114 82 rfl) ?_
                -- end 7: stop, pc 174, locals [(0, .ref (126))]
                exact more (by omega) (gz_b_ne.mp c126) _ (by unfold gz_wo; rw [if_pos c148])
  -- the head
  have fih : ∀ p, 1 ≤ p → p < 4 → gz_fi t l W p = gz_rg (gz_la t l p - 48) (if p = 2 then 1 else 0) 9 := by
    intro p h1 h4
    unfold gz_fi gz_fh
    rw [if_pos h4, if_neg (by omega)]
  have whh : ∀ p, p < 4 → p = l → gz_wh l W = false := by
    intro p h4 e
    unfold gz_wh
    rw [decide_eq_false (by omega)]; rfl
  have head : ∀ I1, gm_tr I I1 → gm_at I1 (1, none) → gm_iv t l W (1, none) → I1 126 11 = 0 → I1 126 12 = 0 → gw_E V 114 (46, [(0, .ref 126)], [], gS n I1 J, 0, 0) (mq_tx n I J l W) := by
    intro I1 g1 A0 v0 z1 z2
    have T0 : I1 134 = t := by rw [g1.1 134 (by omega) (by omega) (by omega) (by omega)]; exact ht
    have L0 : I1 126 15 = Int32.ofNat l := by rw [g1.2 15 (by omega) (by omega) (by omega) (by omega)]; exact hl
    generalize hs1 : gm_sx t l 0 9 (1, none) = s1
    generalize hs2 : gm_sx t l 1 9 s1 = s2
    generalize hs3 : gm_sx t l 0 9 s2 = s3
    have v1 : gm_iv t l W s1 := by rw [← hs1]; exact gm_iv_x (by decide) v0 (fun _ _ => fih 1 (by omega) (by omega)) (fun _ e => whh 1 (by omega) e)
    have a1 : s1.2 = none → s1.1 = 2 ∧ gm_sv t l 0 9 (1, none) = gz_la t l 1 - 48 := fun h => by
      rw [← hs1] at h ⊢
      have := gm_sx_n h
      exact ⟨this.2.1, this.2.2.2⟩
    have v2 : gm_iv t l W s2 := by rw [← hs2]; exact gm_iv_x (by decide) v1 (fun h _ => by rw [(a1 h).1]; exact fih 2 (by omega) (by omega)) (fun h e => by rw [(a1 h).1] at e; exact whh 2 (by omega) e)
    have a2 : s2.2 = none → s1.2 = none ∧ s2.1 = 3 ∧ gm_sv t l 1 9 s1 = gz_la t l 2 - 48 := fun h => by
      rw [← hs2] at h ⊢
      have := gm_sx_n h
      have h1 := a1 this.1
      exact ⟨this.1, this.2.1.trans (by rw [h1.1]), this.2.2.2.trans (by rw [h1.1])⟩
    have v3 : gm_iv t l W s3 := by rw [← hs3]; exact gm_iv_x (by decide) v2 (fun h _ => by rw [(a2 h).2.1]; exact fih 3 (by omega) (by omega)) (fun h e => by rw [(a2 h).2.1] at e; exact whh 3 (by omega) e)
    have a3 : s3.2 = none → s2.2 = none ∧ s3.1 = 4 ∧ gm_sv t l 0 9 s2 = gz_la t l 3 - 48 := fun h => by
      rw [← hs3] at h ⊢
      have := gm_sx_n h
      have h1 := a2 this.1
      exact ⟨this.1, this.2.1.trans (by rw [h1.2.1]), this.2.2.2.trans (by rw [h1.2.1])⟩
    have s0o := gm_iv_so v0
    have s1o := gm_iv_so v1
    have s2o := gm_iv_so v2
    refine gs_aload_n (pc := 46) (gd gk_114 26 rfl) rfl ?_
    refine gs_getR (r := 130) (pc := 47) (gd gk_114 27 rfl) rfl rfl rfl (by decide) ?_
    refine gs_iconst (pc := 50) (gd gk_114 28 rfl) (1) rfl ?_
    refine gs_aload_n (pc := 51) (gd gk_114 29 rfl) rfl ?_
    refine gs_iconst (pc := 52) (gd gk_114 30 rfl) (0) rfl ?_
    refine gs_bipush (pc := 53) (gd gk_114 31 rfl) (9) rfl ?_
    refine gs_callV (as := [.int (0), .int (9)]) (pc := 55) (gd gk_114 32 rfl) (by decide) rfl (by decide) rfl rfl (Nat.le_of_ble_eq_true rfl) gq_114_112 (Nat.le_of_ble_eq_true rfl) (m_figure2 (0) (9) l (1, none) t T0 (by decide) L0 h48 s0o A0) (fun r_55 w_55 q_55 => ?_)
    obtain ⟨rfl, I_f1, rfl, f1, e1, d1⟩ := q_55
    rw [hs1] at f1
    refine gs_iastoreK (1) (4) gs_sl (pc := 58) (gd gk_114 33 rfl) rfl rfl (by decide) (by first | rfl | (simp only [Int32.ofNat_add, Int32.ofNat_mul]; rfl) | (simp only [Int32.ofNat_add, Int32.ofNat_mul])) (by omega) (fun I_1 hI_1 => ?_)
    have A1 : gm_at I_1 s1 := gm_at_o (by rw [hI_1, gw_u_o (by omega)]) f1
    have T1 : I_1 134 = t := by rw [hI_1, gw_u_o (by omega), e1 134 (by omega)]; exact T0
    have L1 : I_1 126 15 = Int32.ofNat l := by rw [hI_1, gw_u_o (by omega), d1 15 (by omega) (by omega)]; exact L0
    refine gs_aload_n (pc := 59) (gd gk_114 34 rfl) rfl ?_
    refine gs_getR (r := 130) (pc := 60) (gd gk_114 35 rfl) rfl rfl rfl (by decide) ?_
    refine gs_iconst (pc := 63) (gd gk_114 36 rfl) (2) rfl ?_
    refine gs_aload_n (pc := 64) (gd gk_114 37 rfl) rfl ?_
    refine gs_iconst (pc := 65) (gd gk_114 38 rfl) (1) rfl ?_
    refine gs_bipush (pc := 66) (gd gk_114 39 rfl) (9) rfl ?_
    refine gs_callV (as := [.int (1), .int (9)]) (pc := 68) (gd gk_114 40 rfl) (by decide) rfl (by decide) rfl rfl (Nat.le_of_ble_eq_true rfl) gq_114_112 (Nat.le_of_ble_eq_true rfl) (m_figure2 (1) (9) l s1 t T1 (by decide) L1 h48 s1o A1) (fun r_68 w_68 q_68 => ?_)
    obtain ⟨rfl, I_f2, rfl, f2, e2, d2⟩ := q_68
    rw [hs2] at f2
    refine gs_iastoreK (2) (4) gs_sl (pc := 71) (gd gk_114 41 rfl) rfl rfl (by decide) (by first | rfl | (simp only [Int32.ofNat_add, Int32.ofNat_mul]; rfl) | (simp only [Int32.ofNat_add, Int32.ofNat_mul])) (by omega) (fun I_2 hI_2 => ?_)
    have A2 : gm_at I_2 s2 := gm_at_o (by rw [hI_2, gw_u_o (by omega)]) f2
    have T2 : I_2 134 = t := by rw [hI_2, gw_u_o (by omega), e2 134 (by omega)]; exact T1
    have L2 : I_2 126 15 = Int32.ofNat l := by rw [hI_2, gw_u_o (by omega), d2 15 (by omega) (by omega)]; exact L1
    refine gs_aload_n (pc := 72) (gd gk_114 42 rfl) rfl ?_
    refine gs_getR (r := 130) (pc := 73) (gd gk_114 43 rfl) rfl rfl rfl (by decide) ?_
    refine gs_iconst (pc := 76) (gd gk_114 44 rfl) (3) rfl ?_
    refine gs_aload_n (pc := 77) (gd gk_114 45 rfl) rfl ?_
    refine gs_iconst (pc := 78) (gd gk_114 46 rfl) (0) rfl ?_
    refine gs_bipush (pc := 79) (gd gk_114 47 rfl) (9) rfl ?_
    refine gs_callV (as := [.int (0), .int (9)]) (pc := 81) (gd gk_114 48 rfl) (by decide) rfl (by decide) rfl rfl (Nat.le_of_ble_eq_true rfl) gq_114_112 (Nat.le_of_ble_eq_true rfl) (m_figure2 (0) (9) l s2 t T2 (by decide) L2 h48 s2o A2) (fun r_81 w_81 q_81 => ?_)
    obtain ⟨rfl, I_f3, rfl, f3, e3, d3⟩ := q_81
    rw [hs3] at f3
    refine gs_iastoreK (3) (4) gs_sl (pc := 84) (gd gk_114 49 rfl) rfl rfl (by decide) (by first | rfl | (simp only [Int32.ofNat_add, Int32.ofNat_mul]; rfl) | (simp only [Int32.ofNat_add, Int32.ofNat_mul])) (by omega) (fun I_3 hI_3 => ?_)
    -- end 1: stop, pc 85, locals [(0, .ref (126))]
    have A3 : gm_at I_3 s3 := gm_at_o (by rw [hI_3, gw_u_o (by omega)]) f3
    have tr : gm_tr I I_3 := gm_tr_tr g1 (gm_tr_tr (gm_tr_f e1 d1) (gm_tr_tr (gm_tr_r hI_1 (by omega)) (gm_tr_tr (gm_tr_f e2 d2) (gm_tr_tr (gm_tr_r hI_2 (by omega)) (gm_tr_tr (gm_tr_f e3 d3) (gm_tr_r hI_3 (by omega)))))))
    have o : ∀ q, q ≠ 16 → q ≠ 17 → I_3 126 q = I1 126 q := fun q q1 q2 => by rw [hI_3, gw_u_o (by omega), d3 q q1 q2, hI_2, gw_u_o (by omega), d2 q q1 q2, hI_1, gw_u_o (by omega), d1 q q1 q2]
    obtain ⟨p9, f9⟩ := s3
    cases f9 with
    | some q9 => exact bad1 I_3 p9 q9 tr A3 v3
    | none =>
      have x3 := a3 rfl
      have x2 := a2 x3.1
      have x1 := a1 x2.1
      have hp : p9 = 4 := x3.2.1
      subst hp
      refine wlp 8 0 (by omega) I_3 tr A3 v3 ?_ ?_ ?_ (by rw [o 11 (by omega) (by omega)]; exact z1) (by rw [o 12 (by omega) (by omega)]; exact z2) (by omega) (fun j hj => absurd hj (Nat.not_lt_zero _)) (fun j hj => absurd hj (Nat.not_lt_zero _))
      · rw [hI_3, gw_u_s]; unfold upd; rw [if_neg (by omega), e3 130 (by omega), hI_2, gw_u_s]; unfold upd; rw [if_neg (by omega), e2 130 (by omega), hI_1, gw_u_s]; unfold upd; rw [if_pos rfl, x1.2]
      · rw [hI_3, gw_u_s]; unfold upd; rw [if_neg (by omega), e3 130 (by omega), hI_2, gw_u_s]; unfold upd; rw [if_pos rfl, x2.2.2]
      · rw [hI_3, gw_u_s]; unfold upd; rw [if_pos rfl, x3.2.2]
  have tr4 : ∀ I_1 I_2 I_3 I_4, I_1 = gw_u I 126 16 0 → I_2 = gw_u I_1 126 17 (-99) → I_3 = gw_u I_2 126 11 0 → I_4 = gw_u I_3 126 12 0 → gm_tr I I_4 := fun I_1 I_2 I_3 I_4 e1 e2 e3 e4 => gm_tr_tr (gm_tr_u e1 (by omega)) (gm_tr_tr (gm_tr_u e2 (by omega)) (gm_tr_tr (gm_tr_u e3 (by omega)) (gm_tr_u e4 (by omega))))
  refine gs_aload_n (pc := 0) (gd gk_114 0 rfl) rfl ?_
  refine gs_iconst (pc := 1) (gd gk_114 1 rfl) (0) rfl ?_
  refine gs_putI (pc := 2) (gd gk_114 2 rfl) rfl rfl rfl rfl (fun I_1 hI_1 => ?_)
  refine gs_aload_n (pc := 5) (gd gk_114 3 rfl) rfl ?_
  refine gs_bipush (pc := 6) (gd gk_114 4 rfl) (-99) rfl ?_
  refine gs_putI (pc := 8) (gd gk_114 5 rfl) rfl rfl rfl rfl (fun I_2 hI_2 => ?_)
  refine gs_aload_n (pc := 11) (gd gk_114 6 rfl) rfl ?_
  refine gs_iconst (pc := 12) (gd gk_114 7 rfl) (0) rfl ?_
  refine gs_putI (pc := 13) (gd gk_114 8 rfl) rfl rfl rfl rfl (fun I_3 hI_3 => ?_)
  refine gs_aload_n (pc := 16) (gd gk_114 9 rfl) rfl ?_
  refine gs_iconst (pc := 17) (gd gk_114 10 rfl) (0) rfl ?_
  refine gs_putI (pc := 18) (gd gk_114 11 rfl) rfl rfl rfl rfl (fun I_4 hI_4 => ?_)
  have tr := tr4 _ _ _ _ hI_1 hI_2 hI_3 hI_4
  have hl4 : I_4 126 15 = Int32.ofNat l := by rw [tr.2 15 (by omega) (by omega) (by omega) (by omega)]; exact hl
  have h4t : I_4 134 0 = t 0 := by rw [tr.1 134 (by omega) (by omega) (by omega) (by omega), ht]
  refine gs_aload_n (pc := 21) (gd gk_114 12 rfl) rfl ?_
  refine gs_getI (pc := 22) (gd gk_114 13 rfl) rfl rfl ?_
  refine gs_as (Int32.ofNat l) (hl4) ?_
  refine gs_if_eq (pc := 25) (gd gk_114 14 rfl) (fun c25 => ?_) (fun c25 => ?_)
  · replace c25 : l = 0 := (zeq (k := l) (m := 0) (by omega) (by omega)).mp c25
    refine gs_iconst (pc := 39) (gd gk_114 21 rfl) (0) rfl ?_
    -- end 1: ireturn 0, pc 40, locals [(0, .ref (126))]
    exact gs_iret (pc := 40) (gd gk_114 22 rfl) rfl (rfl) (Nat.zero_le _) (Nat.zero_le _) (⟨0, by rw [ht]; exact .inr ⟨fun j hj => by omega, by rw [whh 0 (by omega) (by omega), show l = 0 from c25]; rfl⟩, rfl, I_4, rfl, gm_tr_q tr, fun e => absurd e (by decide)⟩)
  · replace c25 : ¬ (l = 0) := fun q9 => c25 ((zeq (k := l) (m := 0) (by omega) (by omega)).mpr q9)
    refine gs_aload_n (pc := 28) (gd gk_114 15 rfl) rfl ?_
    refine gs_getR (r := 134) (pc := 29) (gd gk_114 16 rfl) rfl rfl rfl (by decide) ?_
    refine gs_iconst (pc := 32) (gd gk_114 17 rfl) (0) rfl ?_
    refine gs_ialoadK (0) (48) (pc := 33) (gd gk_114 18 rfl) (Or.inl rfl) rfl (by decide) (by first | rfl | (simp only [Int32.ofNat_add, Int32.ofNat_mul]; rfl) | (simp only [Int32.ofNat_add, Int32.ofNat_mul])) (by omega) ?_
    refine gs_as (t 0) (h4t) ?_
    refine gs_bipush (pc := 34) (gd gk_114 19 rfl) (83) rfl ?_
    refine gs_icmp_eq (pc := 36) (gd gk_114 20 rfl) (fun c36 => ?_) (fun c36 => ?_)
    · refine gs_aload_n (pc := 41) (gd gk_114 23 rfl) rfl ?_
      refine gs_iconst (pc := 42) (gd gk_114 24 rfl) (1) rfl ?_
      refine gs_putI (pc := 43) (gd gk_114 25 rfl) rfl rfl rfl rfl (fun I_5 hI_5 => ?_)
      -- end 2: stop, pc 46, locals [(0, .ref (126))]
      have hg0 : gz_fi t l W 0 = true := by unfold gz_fi gz_fh; rw [if_pos (by omega), if_pos rfl]; refine decide_eq_true ?_; unfold gz_la; rw [if_pos (by omega)]; exact c36
      refine head I_5 (gm_tr_tr tr (gm_tr_u hI_5 (by omega))) ⟨by rw [hI_5, gw_u_s]; unfold upd; rw [if_pos rfl]; rfl, ?_⟩ ⟨by show 1 ≤ l; omega, fun _ j hj => by
        have hj : j < 1 := hj
        obtain rfl : j = 0 := by omega
        exact hg0, fun q hq => by cases hq⟩ ?_ ?_
      · rw [hI_5, gw_u_s]; unfold upd; rw [if_neg (by omega), hI_4, gw_u_s]; unfold upd; rw [if_neg (by omega), hI_3, gw_u_s]; unfold upd; rw [if_neg (by omega), hI_2, gw_u_s]; unfold upd; rw [if_pos rfl]; rfl
      · rw [hI_5, gw_u_s]; unfold upd; rw [if_neg (by omega), hI_4, gw_u_s]; unfold upd; rw [if_neg (by omega), hI_3, gw_u_s]; unfold upd; rw [if_pos rfl]
      · rw [hI_5, gw_u_s]; unfold upd; rw [if_neg (by omega), hI_4, gw_u_s]; unfold upd; rw [if_pos rfl]
    · refine gs_iconst (pc := 39) (gd gk_114 21 rfl) (0) rfl ?_
      -- end 3: ireturn 0, pc 40, locals [(0, .ref (126))]
      have hg0 : gz_fi t l W 0 = false := by unfold gz_fi gz_fh; rw [if_pos (by omega), if_pos rfl]; refine decide_eq_false ?_; unfold gz_la; rw [if_pos (by omega)]; exact c36
      exact gs_iret (pc := 40) (gd gk_114 22 rfl) rfl (rfl) (Nat.zero_le _) (Nat.zero_le _) (⟨0, by rw [ht]; exact .inl ⟨0, by omega, hg0, fun j hj => absurd hj (Nat.not_lt_zero _), rfl⟩, rfl, I_4, rfl, gm_tr_q tr, fun e => absurd e (by decide)⟩)
theorem m_fault (l W : Nat) (hT : gz_wT (I 134) l W) (hl : I 126 15 = Int32.ofNat l) (h48 : l ≤ 48) : gw_E V 116 (0, [(0, .ref 126)], [], gS n I J, 0, 0) (fun v w' => ∃ y, gz_fp (I 134) l W y ∧ v = some (.int y) ∧ ∃ I2, w' = gS n I2 J ∧ gm_qf I I2) := by
  refine gs_aload_n (pc := 0) (gd gk_116 0 rfl) rfl ?_
  refine gs_callV (as := []) (pc := 1) (gd gk_116 1 rfl) (by decide) rfl (by decide) rfl rfl (Nat.le_of_ble_eq_true rfl) gq_116_114 (Nat.le_of_ble_eq_true rfl) (m_readText l W hT hl h48) (fun r_1 w_1 q_1 => ?_)
  obtain ⟨y, y1, rfl, I_t, rfl, t1, t2⟩ := q_1
  -- end 1: ireturn y, pc 4, locals [(0, .ref (126))]
  exact gs_iret (pc := 4) (gd gk_116 2 rfl) rfl (rfl) (Nat.zero_le _) (Nat.zero_le _) (⟨y, y1, rfl, I_t, rfl, t1⟩)
end
