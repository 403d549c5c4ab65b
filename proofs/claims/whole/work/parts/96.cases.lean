/-! ===== the law: both are asked the same, and answer the same ===== -/
section
variable {V : gw_V} {pc a b j i n cu su : Nat} {ls : List (Nat × Value)} {st as : List Value} {w : gw_W} {I : Nat → Nat → Int32} {J : Nat → Nat → Int64} {Q Q1 : Option Value → gw_W → Prop}
theorem gl_call {x : Nat} (hd : gw_D 164 pc (.invokevirtual x) 3 j b) (hj : j < 164) (hk : gm_k j = 1) (ho : gm_o j < 12) (ht : gw_T w a = gm_o j) (hn : as.length = gm_p j) (hl : (lg_sl (.ref a :: as)).length ≤ gm_L j) (hf : gm_f j + 1 ≤ gm_f 164 ∧ 8 + (gm_L j + 11) + gm_x j ≤ gm_x 164) (h0 : gm_c j = 0 ∧ gm_s j = 0) (hc : cu ≤ gm_c 164) (hu : su ≤ gm_s 164) (hs : (st.map fun v => v.category).sum ≤ 8) (hC : gw_E V j (0, lv_args 0 (.ref a :: as), [], w, 0, 0) Q1)
    (kk : ∀ v w', Q1 v w' → gw_E V 164 (pc + 3, ls, v.toList ++ st, w', cu, su) Q) : gw_E V 164 (pc, ls, as.reverse ++ .ref a :: st, w, cu, su) Q :=
  gs_callV hd hj hk ho ht hn hl ⟨hf.1, hf.2, by rw [h0.1]; exact hc, by rw [h0.2]; exact hu⟩ hs hC (fun v w' q => by rw [h0.1, h0.2]; exact kk v w' q)
/-- a script's int as a truth -/
theorem gl_bool {x : Int32} {o1 o2 : Int} {a1 b0 b1 b2 a3 b3 : Nat} {v1 v0 : Int} (h0 : gw_D 164 pc (.ifCond .eq o1) 3 (pc + 7) b0) (h1 : gw_D 164 (pc + 3) (.iconst v1) 1 a1 b1) (h2 : gw_D 164 (pc + 4) (.goto o2) 3 (pc + 8) b2) (h3 : gw_D 164 (pc + 7) (.iconst v0) 1 a3 b3) (e1 : gb_iv a1 b1 = 1) (e0 : gb_iv a3 b3 = 0) (k : gw_E V 164 (pc + 8, ls, .int (gz_b (decide (x ≠ 0))) :: st, w, cu, su) Q) : gw_E V 164 (pc, ls, .int x :: st, w, cu, su) Q := by
  refine gs_if_eq h0 (fun c => ?_) (fun c => ?_)
  · refine gs_iconst h3 0 e0 ?_
    rw [show gz_b (decide (x ≠ 0)) = 0 from by subst c; rfl] at k
    exact k
  · refine gs_iconst h1 1 e1 ?_
    refine gs_goto h2 ?_
    rw [show gz_b (decide (x ≠ 0)) = 1 from by rw [show decide (x ≠ 0) = true from decide_eq_true c]; rfl] at k
    exact k
theorem l_write (hn : n ≤ 320) (hi : i + 5 ≤ n) (hc : cu ≤ gm_c 164) (hu : su ≤ gm_s 164) (h : gv_Inv I J) (next : ∀ I2 J2, I2 0 = I 0 → gv_Inv I2 J2 → gw_E V 164 (1000, [(0, .ref 0), (1, .ref 3), (2, .ref 126), (3, .int (Int32.ofNat i))], [], gS n I2 J2, cu, su) Q) : gw_E V 164 (164, [(0, .ref 0), (1, .ref 3), (2, .ref 126), (3, .int (Int32.ofNat i))], [], gS n I J, cu, su) Q := by
  refine gs_aload_n (pc := 164) (gd gk_164_0 22 rfl) rfl ?_
  refine gs_aload_n (pc := 165) (gd gk_164_0 23 rfl) rfl ?_
  refine gs_iload_n (pc := 166) (gd gk_164_0 24 rfl) rfl ?_
  refine gs_iconst (pc := 167) (gd gk_164_0 25 rfl) (1) rfl ?_
  refine gs_iadd (pc := 168) (gd gk_164_0 26 rfl) ?_
  refine gs_ialoadK (i + 1) n (pc := 169) (gd gk_164_0 27 rfl) (Or.inr ⟨rfl, by decide⟩) rfl (by omega) (by rw [Int32.ofNat_add]; rfl) (by omega) ?_
  refine gl_call (as := [.int (I 0 (i + 1))]) (pc := 170) (gd gk_164_0 28 rfl) (by decide) rfl (by decide) rfl rfl (Nat.le_of_ble_eq_true rfl) (by decide +kernel) ⟨rfl, rfl⟩ hc hu (Nat.le_of_ble_eq_true rfl) (p_write (V := V) (n := n) (I 0 (i + 1)) h) (fun r_0 w_0 q_0 => ?_)
  obtain ⟨y, I1, J1, rfl, rfl, e0, hE⟩ := q_0
  refine gs_aload_n (pc := 173) (gd gk_164_0 29 rfl) rfl ?_
  refine gs_aload_n (pc := 174) (gd gk_164_0 30 rfl) rfl ?_
  refine gs_iload_n (pc := 175) (gd gk_164_0 31 rfl) rfl ?_
  refine gs_iconst (pc := 176) (gd gk_164_0 32 rfl) (1) rfl ?_
  refine gs_iadd (pc := 177) (gd gk_164_0 33 rfl) ?_
  refine gs_ialoadK (i + 1) n (pc := 178) (gd gk_164_0 34 rfl) (Or.inr ⟨rfl, by decide⟩) rfl (by omega) (by rw [Int32.ofNat_add]; rfl) (by omega) ?_
  refine gs_as (I 0 (i + 1)) (by rw [e0]) ?_
  refine gl_call (as := [.int (I 0 (i + 1))]) (pc := 179) (gd gk_164_0 35 rfl) (by decide) rfl (by decide) rfl rfl (Nat.le_of_ble_eq_true rfl) (by decide +kernel) ⟨rfl, rfl⟩ hc hu (Nat.le_of_ble_eq_true rfl) (hE) (fun r_1 w_1 q_1 => ?_)
  obtain ⟨rfl, I2, J2, rfl, e2, hv⟩ := q_1
  exact gs_icmp_eq (pc := 182) (gd gk_164_0 36 rfl) (fun _ => next I2 J2 e2 hv) (fun q => absurd rfl q)
theorem l_wipe (hn : n ≤ 320) (hi : i + 5 ≤ n) (hc : cu ≤ gm_c 164) (hu : su ≤ gm_s 164) (h : gv_Inv I J) (next : ∀ I2 J2, I2 0 = I 0 → gv_Inv I2 J2 → gw_E V 164 (1000, [(0, .ref 0), (1, .ref 3), (2, .ref 126), (3, .int (Int32.ofNat i))], [], gS n I2 J2, cu, su) Q) : gw_E V 164 (187, [(0, .ref 0), (1, .ref 3), (2, .ref 126), (3, .int (Int32.ofNat i))], [], gS n I J, cu, su) Q := by
  refine gs_aload_n (pc := 187) (gd gk_164_0 39 rfl) rfl ?_
  refine gl_call (as := []) (pc := 188) (gd gk_164_1 0 rfl) (by decide) rfl (by decide) rfl rfl (Nat.le_of_ble_eq_true rfl) (by decide +kernel) ⟨rfl, rfl⟩ hc hu (Nat.le_of_ble_eq_true rfl) (p_wipe (V := V) (n := n)  h) (fun r_0 w_0 q_0 => ?_)
  obtain ⟨y, I1, J1, rfl, rfl, e0, hE⟩ := q_0
  refine gs_aload_n (pc := 191) (gd gk_164_1 1 rfl) rfl ?_
  refine gl_call (as := []) (pc := 192) (gd gk_164_1 2 rfl) (by decide) rfl (by decide) rfl rfl (Nat.le_of_ble_eq_true rfl) (by decide +kernel) ⟨rfl, rfl⟩ hc hu (Nat.le_of_ble_eq_true rfl) (hE) (fun r_1 w_1 q_1 => ?_)
  obtain ⟨rfl, I2, J2, rfl, e2, hv⟩ := q_1
  exact gs_icmp_eq (pc := 195) (gd gk_164_1 3 rfl) (fun _ => next I2 J2 e2 hv) (fun q => absurd rfl q)
theorem l_fault (hn : n ≤ 320) (hi : i + 5 ≤ n) (hc : cu ≤ gm_c 164) (hu : su ≤ gm_s 164) (h : gv_Inv I J) (next : ∀ I2 J2, I2 0 = I 0 → gv_Inv I2 J2 → gw_E V 164 (1000, [(0, .ref 0), (1, .ref 3), (2, .ref 126), (3, .int (Int32.ofNat i))], [], gS n I2 J2, cu, su) Q) : gw_E V 164 (200, [(0, .ref 0), (1, .ref 3), (2, .ref 126), (3, .int (Int32.ofNat i))], [], gS n I J, cu, su) Q := by
  refine gs_aload_n (pc := 200) (gd gk_164_1 6 rfl) rfl ?_
  refine gl_call (as := []) (pc := 201) (gd gk_164_1 7 rfl) (by decide) rfl (by decide) rfl rfl (Nat.le_of_ble_eq_true rfl) (by decide +kernel) ⟨rfl, rfl⟩ hc hu (Nat.le_of_ble_eq_true rfl) (p_fault (V := V) (n := n)  h) (fun r_0 w_0 q_0 => ?_)
  obtain ⟨y, I1, J1, rfl, rfl, e0, hE⟩ := q_0
  refine gs_aload_n (pc := 204) (gd gk_164_1 8 rfl) rfl ?_
  refine gl_call (as := []) (pc := 205) (gd gk_164_1 9 rfl) (by decide) rfl (by decide) rfl rfl (Nat.le_of_ble_eq_true rfl) (by decide +kernel) ⟨rfl, rfl⟩ hc hu (Nat.le_of_ble_eq_true rfl) (hE) (fun r_1 w_1 q_1 => ?_)
  obtain ⟨rfl, I2, J2, rfl, e2, hv⟩ := q_1
  exact gs_icmp_eq (pc := 208) (gd gk_164_1 10 rfl) (fun _ => next I2 J2 e2 hv) (fun q => absurd rfl q)
theorem l_street (hn : n ≤ 320) (hi : i + 5 ≤ n) (hc : cu ≤ gm_c 164) (hu : su ≤ gm_s 164) (h : gv_Inv I J) (next : ∀ I2 J2, I2 0 = I 0 → gv_Inv I2 J2 → gw_E V 164 (1000, [(0, .ref 0), (1, .ref 3), (2, .ref 126), (3, .int (Int32.ofNat i))], [], gS n I2 J2, cu, su) Q) : gw_E V 164 (213, [(0, .ref 0), (1, .ref 3), (2, .ref 126), (3, .int (Int32.ofNat i))], [], gS n I J, cu, su) Q := by
  refine gs_aload_n (pc := 213) (gd gk_164_1 13 rfl) rfl ?_
  refine gl_call (as := []) (pc := 214) (gd gk_164_1 14 rfl) (by decide) rfl (by decide) rfl rfl (Nat.le_of_ble_eq_true rfl) (by decide +kernel) ⟨rfl, rfl⟩ hc hu (Nat.le_of_ble_eq_true rfl) (p_street (V := V) (n := n)  h) (fun r_0 w_0 q_0 => ?_)
  obtain ⟨y, I1, J1, rfl, rfl, e0, hE⟩ := q_0
  refine gs_aload_n (pc := 217) (gd gk_164_1 15 rfl) rfl ?_
  refine gl_call (as := []) (pc := 218) (gd gk_164_1 16 rfl) (by decide) rfl (by decide) rfl rfl (Nat.le_of_ble_eq_true rfl) (by decide +kernel) ⟨rfl, rfl⟩ hc hu (Nat.le_of_ble_eq_true rfl) (hE) (fun r_1 w_1 q_1 => ?_)
  obtain ⟨rfl, I2, J2, rfl, e2, hv⟩ := q_1
  exact gs_icmp_eq (pc := 221) (gd gk_164_1 17 rfl) (fun _ => next I2 J2 e2 hv) (fun q => absurd rfl q)
theorem l_smell (hn : n ≤ 320) (hi : i + 5 ≤ n) (hc : cu ≤ gm_c 164) (hu : su ≤ gm_s 164) (h : gv_Inv I J) (next : ∀ I2 J2, I2 0 = I 0 → gv_Inv I2 J2 → gw_E V 164 (1000, [(0, .ref 0), (1, .ref 3), (2, .ref 126), (3, .int (Int32.ofNat i))], [], gS n I2 J2, cu, su) Q) : gw_E V 164 (226, [(0, .ref 0), (1, .ref 3), (2, .ref 126), (3, .int (Int32.ofNat i))], [], gS n I J, cu, su) Q := by
  refine gs_aload_n (pc := 226) (gd gk_164_1 20 rfl) rfl ?_
  refine gs_aload_n (pc := 227) (gd gk_164_1 21 rfl) rfl ?_
  refine gs_iload_n (pc := 228) (gd gk_164_1 22 rfl) rfl ?_
  refine gs_iconst (pc := 229) (gd gk_164_1 23 rfl) (1) rfl ?_
  refine gs_iadd (pc := 230) (gd gk_164_1 24 rfl) ?_
  refine gs_ialoadK (i + 1) n (pc := 231) (gd gk_164_1 25 rfl) (Or.inr ⟨rfl, by decide⟩) rfl (by omega) (by rw [Int32.ofNat_add]; rfl) (by omega) ?_
  refine gl_call (as := [.int (I 0 (i + 1))]) (pc := 232) (gd gk_164_1 26 rfl) (by decide) rfl (by decide) rfl rfl (Nat.le_of_ble_eq_true rfl) (by decide +kernel) ⟨rfl, rfl⟩ hc hu (Nat.le_of_ble_eq_true rfl) (p_smell (V := V) (n := n) (I 0 (i + 1)) h) (fun r_0 w_0 q_0 => ?_)
  obtain ⟨y, I1, J1, rfl, rfl, e0, hE⟩ := q_0
  refine gs_aload_n (pc := 235) (gd gk_164_1 27 rfl) rfl ?_
  refine gs_aload_n (pc := 236) (gd gk_164_1 28 rfl) rfl ?_
  refine gs_iload_n (pc := 237) (gd gk_164_1 29 rfl) rfl ?_
  refine gs_iconst (pc := 238) (gd gk_164_1 30 rfl) (1) rfl ?_
  refine gs_iadd (pc := 239) (gd gk_164_1 31 rfl) ?_
  refine gs_ialoadK (i + 1) n (pc := 240) (gd gk_164_1 32 rfl) (Or.inr ⟨rfl, by decide⟩) rfl (by omega) (by rw [Int32.ofNat_add]; rfl) (by omega) ?_
  refine gs_as (I 0 (i + 1)) (by rw [e0]) ?_
  refine gl_call (as := [.int (I 0 (i + 1))]) (pc := 241) (gd gk_164_1 33 rfl) (by decide) rfl (by decide) rfl rfl (Nat.le_of_ble_eq_true rfl) (by decide +kernel) ⟨rfl, rfl⟩ hc hu (Nat.le_of_ble_eq_true rfl) (hE) (fun r_1 w_1 q_1 => ?_)
  obtain ⟨rfl, I2, J2, rfl, e2, hv⟩ := q_1
  exact gs_icmp_eq (pc := 244) (gd gk_164_1 34 rfl) (fun _ => next I2 J2 e2 hv) (fun q => absurd rfl q)
theorem l_wind (hn : n ≤ 320) (hi : i + 5 ≤ n) (hc : cu ≤ gm_c 164) (hu : su ≤ gm_s 164) (h : gv_Inv I J) (next : ∀ I2 J2, I2 0 = I 0 → gv_Inv I2 J2 → gw_E V 164 (1000, [(0, .ref 0), (1, .ref 3), (2, .ref 126), (3, .int (Int32.ofNat i))], [], gS n I2 J2, cu, su) Q) : gw_E V 164 (249, [(0, .ref 0), (1, .ref 3), (2, .ref 126), (3, .int (Int32.ofNat i))], [], gS n I J, cu, su) Q := by
  refine gs_aload_n (pc := 249) (gd gk_164_1 37 rfl) rfl ?_
  refine gs_aload_n (pc := 250) (gd gk_164_1 38 rfl) rfl ?_
  refine gs_iload_n (pc := 251) (gd gk_164_1 39 rfl) rfl ?_
  refine gs_iconst (pc := 252) (gd gk_164_2 0 rfl) (1) rfl ?_
  refine gs_iadd (pc := 253) (gd gk_164_2 1 rfl) ?_
  refine gs_ialoadK (i + 1) n (pc := 254) (gd gk_164_2 2 rfl) (Or.inr ⟨rfl, by decide⟩) rfl (by omega) (by rw [Int32.ofNat_add]; rfl) (by omega) ?_
  refine gl_call (as := [.int (I 0 (i + 1))]) (pc := 255) (gd gk_164_2 3 rfl) (by decide) rfl (by decide) rfl rfl (Nat.le_of_ble_eq_true rfl) (by decide +kernel) ⟨rfl, rfl⟩ hc hu (Nat.le_of_ble_eq_true rfl) (p_wind (V := V) (n := n) (I 0 (i + 1)) h) (fun r_0 w_0 q_0 => ?_)
  obtain ⟨y, I1, J1, rfl, rfl, e0, hE⟩ := q_0
  refine gs_aload_n (pc := 258) (gd gk_164_2 4 rfl) rfl ?_
  refine gs_aload_n (pc := 259) (gd gk_164_2 5 rfl) rfl ?_
  refine gs_iload_n (pc := 260) (gd gk_164_2 6 rfl) rfl ?_
  refine gs_iconst (pc := 261) (gd gk_164_2 7 rfl) (1) rfl ?_
  refine gs_iadd (pc := 262) (gd gk_164_2 8 rfl) ?_
  refine gs_ialoadK (i + 1) n (pc := 263) (gd gk_164_2 9 rfl) (Or.inr ⟨rfl, by decide⟩) rfl (by omega) (by rw [Int32.ofNat_add]; rfl) (by omega) ?_
  refine gs_as (I 0 (i + 1)) (by rw [e0]) ?_
  refine gl_call (as := [.int (I 0 (i + 1))]) (pc := 264) (gd gk_164_2 10 rfl) (by decide) rfl (by decide) rfl rfl (Nat.le_of_ble_eq_true rfl) (by decide +kernel) ⟨rfl, rfl⟩ hc hu (Nat.le_of_ble_eq_true rfl) (hE) (fun r_1 w_1 q_1 => ?_)
  obtain ⟨rfl, I2, J2, rfl, e2, hv⟩ := q_1
  exact gs_icmp_eq (pc := 267) (gd gk_164_2 11 rfl) (fun _ => next I2 J2 e2 hv) (fun q => absurd rfl q)
theorem l_nose (hn : n ≤ 320) (hi : i + 5 ≤ n) (hc : cu ≤ gm_c 164) (hu : su ≤ gm_s 164) (h : gv_Inv I J) (next : ∀ I2 J2, I2 0 = I 0 → gv_Inv I2 J2 → gw_E V 164 (1000, [(0, .ref 0), (1, .ref 3), (2, .ref 126), (3, .int (Int32.ofNat i))], [], gS n I2 J2, cu, su) Q) : gw_E V 164 (272, [(0, .ref 0), (1, .ref 3), (2, .ref 126), (3, .int (Int32.ofNat i))], [], gS n I J, cu, su) Q := by
  refine gs_aload_n (pc := 272) (gd gk_164_2 14 rfl) rfl ?_
  refine gs_aload_n (pc := 273) (gd gk_164_2 15 rfl) rfl ?_
  refine gs_iload_n (pc := 274) (gd gk_164_2 16 rfl) rfl ?_
  refine gs_iconst (pc := 275) (gd gk_164_2 17 rfl) (1) rfl ?_
  refine gs_iadd (pc := 276) (gd gk_164_2 18 rfl) ?_
  refine gs_ialoadK (i + 1) n (pc := 277) (gd gk_164_2 19 rfl) (Or.inr ⟨rfl, by decide⟩) rfl (by omega) (by rw [Int32.ofNat_add]; rfl) (by omega) ?_
  refine gs_aload_n (pc := 278) (gd gk_164_2 20 rfl) rfl ?_
  refine gs_iload_n (pc := 279) (gd gk_164_2 21 rfl) rfl ?_
  refine gs_iconst (pc := 280) (gd gk_164_2 22 rfl) (2) rfl ?_
  refine gs_iadd (pc := 281) (gd gk_164_2 23 rfl) ?_
  refine gs_ialoadK (i + 2) n (pc := 282) (gd gk_164_2 24 rfl) (Or.inr ⟨rfl, by decide⟩) rfl (by omega) (by rw [Int32.ofNat_add]; rfl) (by omega) ?_
  refine gl_call (as := [.int (I 0 (i + 1)), .int (I 0 (i + 2))]) (pc := 283) (gd gk_164_2 25 rfl) (by decide) rfl (by decide) rfl rfl (Nat.le_of_ble_eq_true rfl) (by decide +kernel) ⟨rfl, rfl⟩ hc hu (Nat.le_of_ble_eq_true rfl) (p_nose (V := V) (n := n) (I 0 (i + 1)) (I 0 (i + 2)) h) (fun r_0 w_0 q_0 => ?_)
  obtain ⟨y, I1, J1, rfl, rfl, e0, hE⟩ := q_0
  refine gs_aload_n (pc := 286) (gd gk_164_2 26 rfl) rfl ?_
  refine gs_aload_n (pc := 287) (gd gk_164_2 27 rfl) rfl ?_
  refine gs_iload_n (pc := 288) (gd gk_164_2 28 rfl) rfl ?_
  refine gs_iconst (pc := 289) (gd gk_164_2 29 rfl) (1) rfl ?_
  refine gs_iadd (pc := 290) (gd gk_164_2 30 rfl) ?_
  refine gs_ialoadK (i + 1) n (pc := 291) (gd gk_164_2 31 rfl) (Or.inr ⟨rfl, by decide⟩) rfl (by omega) (by rw [Int32.ofNat_add]; rfl) (by omega) ?_
  refine gs_as (I 0 (i + 1)) (by rw [e0]) ?_
  refine gs_aload_n (pc := 292) (gd gk_164_2 32 rfl) rfl ?_
  refine gs_iload_n (pc := 293) (gd gk_164_2 33 rfl) rfl ?_
  refine gs_iconst (pc := 294) (gd gk_164_2 34 rfl) (2) rfl ?_
  refine gs_iadd (pc := 295) (gd gk_164_2 35 rfl) ?_
  refine gs_ialoadK (i + 2) n (pc := 296) (gd gk_164_2 36 rfl) (Or.inr ⟨rfl, by decide⟩) rfl (by omega) (by rw [Int32.ofNat_add]; rfl) (by omega) ?_
  refine gs_as (I 0 (i + 2)) (by rw [e0]) ?_
  refine gl_call (as := [.int (I 0 (i + 1)), .int (I 0 (i + 2))]) (pc := 297) (gd gk_164_2 37 rfl) (by decide) rfl (by decide) rfl rfl (Nat.le_of_ble_eq_true rfl) (by decide +kernel) ⟨rfl, rfl⟩ hc hu (Nat.le_of_ble_eq_true rfl) (hE) (fun r_1 w_1 q_1 => ?_)
  obtain ⟨rfl, I2, J2, rfl, e2, hv⟩ := q_1
  exact gs_icmp_eq (pc := 300) (gd gk_164_2 38 rfl) (fun _ => next I2 J2 e2 hv) (fun q => absurd rfl q)
theorem l_pennies (hn : n ≤ 320) (hi : i + 5 ≤ n) (hc : cu ≤ gm_c 164) (hu : su ≤ gm_s 164) (h : gv_Inv I J) (next : ∀ I2 J2, I2 0 = I 0 → gv_Inv I2 J2 → gw_E V 164 (1000, [(0, .ref 0), (1, .ref 3), (2, .ref 126), (3, .int (Int32.ofNat i))], [], gS n I2 J2, cu, su) Q) : gw_E V 164 (305, [(0, .ref 0), (1, .ref 3), (2, .ref 126), (3, .int (Int32.ofNat i))], [], gS n I J, cu, su) Q := by
  refine gs_aload_n (pc := 305) (gd gk_164_3 1 rfl) rfl ?_
  refine gl_call (as := []) (pc := 306) (gd gk_164_3 2 rfl) (by decide) rfl (by decide) rfl rfl (Nat.le_of_ble_eq_true rfl) (by decide +kernel) ⟨rfl, rfl⟩ hc hu (Nat.le_of_ble_eq_true rfl) (p_pennies (V := V) (n := n)  h) (fun r_0 w_0 q_0 => ?_)
  obtain ⟨y, I1, J1, rfl, rfl, e0, hE⟩ := q_0
  refine gs_aload_n (pc := 309) (gd gk_164_3 3 rfl) rfl ?_
  refine gl_call (as := []) (pc := 310) (gd gk_164_3 4 rfl) (by decide) rfl (by decide) rfl rfl (Nat.le_of_ble_eq_true rfl) (by decide +kernel) ⟨rfl, rfl⟩ hc hu (Nat.le_of_ble_eq_true rfl) (hE) (fun r_1 w_1 q_1 => ?_)
  obtain ⟨rfl, I2, J2, rfl, e2, hv⟩ := q_1
  exact gs_icmp_eq (pc := 313) (gd gk_164_3 5 rfl) (fun _ => next I2 J2 e2 hv) (fun q => absurd rfl q)
theorem l_hour (hn : n ≤ 320) (hi : i + 5 ≤ n) (hc : cu ≤ gm_c 164) (hu : su ≤ gm_s 164) (h : gv_Inv I J) (next : ∀ I2 J2, I2 0 = I 0 → gv_Inv I2 J2 → gw_E V 164 (1000, [(0, .ref 0), (1, .ref 3), (2, .ref 126), (3, .int (Int32.ofNat i))], [], gS n I2 J2, cu, su) Q) : gw_E V 164 (318, [(0, .ref 0), (1, .ref 3), (2, .ref 126), (3, .int (Int32.ofNat i))], [], gS n I J, cu, su) Q := by
  refine gs_aload_n (pc := 318) (gd gk_164_3 8 rfl) rfl ?_
  refine gs_aload_n (pc := 319) (gd gk_164_3 9 rfl) rfl ?_
  refine gs_iload_n (pc := 320) (gd gk_164_3 10 rfl) rfl ?_
  refine gs_iconst (pc := 321) (gd gk_164_3 11 rfl) (1) rfl ?_
  refine gs_iadd (pc := 322) (gd gk_164_3 12 rfl) ?_
  refine gs_ialoadK (i + 1) n (pc := 323) (gd gk_164_3 13 rfl) (Or.inr ⟨rfl, by decide⟩) rfl (by omega) (by rw [Int32.ofNat_add]; rfl) (by omega) ?_
  refine gl_bool (pc := 324) (gd gk_164_3 14 rfl) (gd gk_164_3 15 rfl) (gd gk_164_3 16 rfl) (gd gk_164_3 17 rfl) rfl rfl ?_
  refine gl_call (as := [.int (gz_b (decide ((I 0 (i + 1)) ≠ 0)))]) (pc := 332) (gd gk_164_3 18 rfl) (by decide) rfl (by decide) rfl rfl (Nat.le_of_ble_eq_true rfl) (by decide +kernel) ⟨rfl, rfl⟩ hc hu (Nat.le_of_ble_eq_true rfl) (p_hour (V := V) (n := n) (decide ((I 0 (i + 1)) ≠ 0)) h) (fun r_0 w_0 q_0 => ?_)
  obtain ⟨y, I1, J1, rfl, rfl, e0, hE⟩ := q_0
  refine gs_aload_n (pc := 335) (gd gk_164_3 19 rfl) rfl ?_
  refine gs_aload_n (pc := 336) (gd gk_164_3 20 rfl) rfl ?_
  refine gs_iload_n (pc := 337) (gd gk_164_3 21 rfl) rfl ?_
  refine gs_iconst (pc := 338) (gd gk_164_3 22 rfl) (1) rfl ?_
  refine gs_iadd (pc := 339) (gd gk_164_3 23 rfl) ?_
  refine gs_ialoadK (i + 1) n (pc := 340) (gd gk_164_3 24 rfl) (Or.inr ⟨rfl, by decide⟩) rfl (by omega) (by rw [Int32.ofNat_add]; rfl) (by omega) ?_
  refine gs_as (I 0 (i + 1)) (by rw [e0]) ?_
  refine gl_bool (pc := 341) (gd gk_164_3 25 rfl) (gd gk_164_3 26 rfl) (gd gk_164_3 27 rfl) (gd gk_164_3 28 rfl) rfl rfl ?_
  refine gl_call (as := [.int (gz_b (decide ((I 0 (i + 1)) ≠ 0)))]) (pc := 349) (gd gk_164_3 29 rfl) (by decide) rfl (by decide) rfl rfl (Nat.le_of_ble_eq_true rfl) (by decide +kernel) ⟨rfl, rfl⟩ hc hu (Nat.le_of_ble_eq_true rfl) (hE) (fun r_1 w_1 q_1 => ?_)
  obtain ⟨rfl, I2, J2, rfl, e2, hv⟩ := q_1
  exact gs_icmp_eq (pc := 352) (gd gk_164_3 30 rfl) (fun _ => next I2 J2 e2 hv) (fun q => absurd rfl q)
theorem l_chimney (hn : n ≤ 320) (hi : i + 5 ≤ n) (hc : cu ≤ gm_c 164) (hu : su ≤ gm_s 164) (h : gv_Inv I J) (next : ∀ I2 J2, I2 0 = I 0 → gv_Inv I2 J2 → gw_E V 164 (1000, [(0, .ref 0), (1, .ref 3), (2, .ref 126), (3, .int (Int32.ofNat i))], [], gS n I2 J2, cu, su) Q) : gw_E V 164 (357, [(0, .ref 0), (1, .ref 3), (2, .ref 126), (3, .int (Int32.ofNat i))], [], gS n I J, cu, su) Q := by
  refine gs_aload_n (pc := 357) (gd gk_164_3 33 rfl) rfl ?_
  refine gs_aload_n (pc := 358) (gd gk_164_3 34 rfl) rfl ?_
  refine gs_iload_n (pc := 359) (gd gk_164_3 35 rfl) rfl ?_
  refine gs_iconst (pc := 360) (gd gk_164_3 36 rfl) (1) rfl ?_
  refine gs_iadd (pc := 361) (gd gk_164_3 37 rfl) ?_
  refine gs_ialoadK (i + 1) n (pc := 362) (gd gk_164_3 38 rfl) (Or.inr ⟨rfl, by decide⟩) rfl (by omega) (by rw [Int32.ofNat_add]; rfl) (by omega) ?_
  refine gl_call (as := [.int (I 0 (i + 1))]) (pc := 363) (gd gk_164_3 39 rfl) (by decide) rfl (by decide) rfl rfl (Nat.le_of_ble_eq_true rfl) (by decide +kernel) ⟨rfl, rfl⟩ hc hu (Nat.le_of_ble_eq_true rfl) (p_chimney (V := V) (n := n) (I 0 (i + 1)) h) (fun r_0 w_0 q_0 => ?_)
  obtain ⟨y, I1, J1, rfl, rfl, e0, hE⟩ := q_0
  refine gs_aload_n (pc := 366) (gd gk_164_4 0 rfl) rfl ?_
  refine gs_aload_n (pc := 367) (gd gk_164_4 1 rfl) rfl ?_
  refine gs_iload_n (pc := 368) (gd gk_164_4 2 rfl) rfl ?_
  refine gs_iconst (pc := 369) (gd gk_164_4 3 rfl) (1) rfl ?_
  refine gs_iadd (pc := 370) (gd gk_164_4 4 rfl) ?_
  refine gs_ialoadK (i + 1) n (pc := 371) (gd gk_164_4 5 rfl) (Or.inr ⟨rfl, by decide⟩) rfl (by omega) (by rw [Int32.ofNat_add]; rfl) (by omega) ?_
  refine gs_as (I 0 (i + 1)) (by rw [e0]) ?_
  refine gl_call (as := [.int (I 0 (i + 1))]) (pc := 372) (gd gk_164_4 6 rfl) (by decide) rfl (by decide) rfl rfl (Nat.le_of_ble_eq_true rfl) (by decide +kernel) ⟨rfl, rfl⟩ hc hu (Nat.le_of_ble_eq_true rfl) (hE) (fun r_1 w_1 q_1 => ?_)
  obtain ⟨rfl, I2, J2, rfl, e2, hv⟩ := q_1
  exact gs_icmp_eq (pc := 375) (gd gk_164_4 7 rfl) (fun _ => next I2 J2 e2 hv) (fun q => absurd rfl q)
theorem l_undo (hn : n ≤ 320) (hi : i + 5 ≤ n) (hc : cu ≤ gm_c 164) (hu : su ≤ gm_s 164) (h : gv_Inv I J) (next : ∀ I2 J2, I2 0 = I 0 → gv_Inv I2 J2 → gw_E V 164 (1000, [(0, .ref 0), (1, .ref 3), (2, .ref 126), (3, .int (Int32.ofNat i))], [], gS n I2 J2, cu, su) Q) : gw_E V 164 (380, [(0, .ref 0), (1, .ref 3), (2, .ref 126), (3, .int (Int32.ofNat i))], [], gS n I J, cu, su) Q := by
  refine gs_aload_n (pc := 380) (gd gk_164_4 10 rfl) rfl ?_
  refine gl_call (as := []) (pc := 381) (gd gk_164_4 11 rfl) (by decide) rfl (by decide) rfl rfl (Nat.le_of_ble_eq_true rfl) (by decide +kernel) ⟨rfl, rfl⟩ hc hu (Nat.le_of_ble_eq_true rfl) (p_undo (V := V) (n := n)  h) (fun r_0 w_0 q_0 => ?_)
  obtain ⟨y, I1, J1, rfl, rfl, e0, hE⟩ := q_0
  refine gs_aload_n (pc := 384) (gd gk_164_4 12 rfl) rfl ?_
  refine gl_call (as := []) (pc := 385) (gd gk_164_4 13 rfl) (by decide) rfl (by decide) rfl rfl (Nat.le_of_ble_eq_true rfl) (by decide +kernel) ⟨rfl, rfl⟩ hc hu (Nat.le_of_ble_eq_true rfl) (hE) (fun r_1 w_1 q_1 => ?_)
  obtain ⟨rfl, I2, J2, rfl, e2, hv⟩ := q_1
  exact gs_icmp_eq (pc := 388) (gd gk_164_4 14 rfl) (fun _ => next I2 J2 e2 hv) (fun q => absurd rfl q)
theorem l_by (hn : n ≤ 320) (hi : i + 5 ≤ n) (hc : cu ≤ gm_c 164) (hu : su ≤ gm_s 164) (h : gv_Inv I J) (next : ∀ I2 J2, I2 0 = I 0 → gv_Inv I2 J2 → gw_E V 164 (1000, [(0, .ref 0), (1, .ref 3), (2, .ref 126), (3, .int (Int32.ofNat i))], [], gS n I2 J2, cu, su) Q) : gw_E V 164 (393, [(0, .ref 0), (1, .ref 3), (2, .ref 126), (3, .int (Int32.ofNat i))], [], gS n I J, cu, su) Q := by
  refine gs_aload_n (pc := 393) (gd gk_164_4 17 rfl) rfl ?_
  refine gs_aload_n (pc := 394) (gd gk_164_4 18 rfl) rfl ?_
  refine gs_iload_n (pc := 395) (gd gk_164_4 19 rfl) rfl ?_
  refine gs_iconst (pc := 396) (gd gk_164_4 20 rfl) (1) rfl ?_
  refine gs_iadd (pc := 397) (gd gk_164_4 21 rfl) ?_
  refine gs_ialoadK (i + 1) n (pc := 398) (gd gk_164_4 22 rfl) (Or.inr ⟨rfl, by decide⟩) rfl (by omega) (by rw [Int32.ofNat_add]; rfl) (by omega) ?_
  refine gl_call (as := [.int (I 0 (i + 1))]) (pc := 399) (gd gk_164_4 23 rfl) (by decide) rfl (by decide) rfl rfl (Nat.le_of_ble_eq_true rfl) (by decide +kernel) ⟨rfl, rfl⟩ hc hu (Nat.le_of_ble_eq_true rfl) (p_by (V := V) (n := n) (I 0 (i + 1)) h) (fun r_0 w_0 q_0 => ?_)
  obtain ⟨y, I1, J1, rfl, rfl, e0, hE⟩ := q_0
  refine gs_aload_n (pc := 402) (gd gk_164_4 24 rfl) rfl ?_
  refine gs_aload_n (pc := 403) (gd gk_164_4 25 rfl) rfl ?_
  refine gs_iload_n (pc := 404) (gd gk_164_4 26 rfl) rfl ?_
  refine gs_iconst (pc := 405) (gd gk_164_4 27 rfl) (1) rfl ?_
  refine gs_iadd (pc := 406) (gd gk_164_4 28 rfl) ?_
  refine gs_ialoadK (i + 1) n (pc := 407) (gd gk_164_4 29 rfl) (Or.inr ⟨rfl, by decide⟩) rfl (by omega) (by rw [Int32.ofNat_add]; rfl) (by omega) ?_
  refine gs_as (I 0 (i + 1)) (by rw [e0]) ?_
  refine gl_call (as := [.int (I 0 (i + 1))]) (pc := 408) (gd gk_164_4 30 rfl) (by decide) rfl (by decide) rfl rfl (Nat.le_of_ble_eq_true rfl) (by decide +kernel) ⟨rfl, rfl⟩ hc hu (Nat.le_of_ble_eq_true rfl) (hE) (fun r_1 w_1 q_1 => ?_)
  obtain ⟨rfl, I2, J2, rfl, e2, hv⟩ := q_1
  exact gs_icmp_eq (pc := 411) (gd gk_164_4 31 rfl) (fun _ => next I2 J2 e2 hv) (fun q => absurd rfl q)
theorem l_best (hn : n ≤ 320) (hi : i + 5 ≤ n) (hc : cu ≤ gm_c 164) (hu : su ≤ gm_s 164) (h : gv_Inv I J) (next : ∀ I2 J2, I2 0 = I 0 → gv_Inv I2 J2 → gw_E V 164 (1000, [(0, .ref 0), (1, .ref 3), (2, .ref 126), (3, .int (Int32.ofNat i))], [], gS n I2 J2, cu, su) Q) : gw_E V 164 (416, [(0, .ref 0), (1, .ref 3), (2, .ref 126), (3, .int (Int32.ofNat i))], [], gS n I J, cu, su) Q := by
  refine gs_aload_n (pc := 416) (gd gk_164_4 34 rfl) rfl ?_
  refine gs_aload_n (pc := 417) (gd gk_164_4 35 rfl) rfl ?_
  refine gs_iload_n (pc := 418) (gd gk_164_4 36 rfl) rfl ?_
  refine gs_iconst (pc := 419) (gd gk_164_4 37 rfl) (1) rfl ?_
  refine gs_iadd (pc := 420) (gd gk_164_4 38 rfl) ?_
  refine gs_ialoadK (i + 1) n (pc := 421) (gd gk_164_4 39 rfl) (Or.inr ⟨rfl, by decide⟩) rfl (by omega) (by rw [Int32.ofNat_add]; rfl) (by omega) ?_
  refine gl_bool (pc := 422) (gd gk_164_5 0 rfl) (gd gk_164_5 1 rfl) (gd gk_164_5 2 rfl) (gd gk_164_5 3 rfl) rfl rfl ?_
  refine gl_call (as := [.int (gz_b (decide ((I 0 (i + 1)) ≠ 0)))]) (pc := 430) (gd gk_164_5 4 rfl) (by decide) rfl (by decide) rfl rfl (Nat.le_of_ble_eq_true rfl) (by decide +kernel) ⟨rfl, rfl⟩ hc hu (Nat.le_of_ble_eq_true rfl) (p_best (V := V) (n := n) (decide ((I 0 (i + 1)) ≠ 0)) h) (fun r_0 w_0 q_0 => ?_)
  obtain ⟨y, I1, J1, rfl, rfl, e0, hE⟩ := q_0
  refine gs_aload_n (pc := 433) (gd gk_164_5 5 rfl) rfl ?_
  refine gs_aload_n (pc := 434) (gd gk_164_5 6 rfl) rfl ?_
  refine gs_iload_n (pc := 435) (gd gk_164_5 7 rfl) rfl ?_
  refine gs_iconst (pc := 436) (gd gk_164_5 8 rfl) (1) rfl ?_
  refine gs_iadd (pc := 437) (gd gk_164_5 9 rfl) ?_
  refine gs_ialoadK (i + 1) n (pc := 438) (gd gk_164_5 10 rfl) (Or.inr ⟨rfl, by decide⟩) rfl (by omega) (by rw [Int32.ofNat_add]; rfl) (by omega) ?_
  refine gs_as (I 0 (i + 1)) (by rw [e0]) ?_
  refine gl_bool (pc := 439) (gd gk_164_5 11 rfl) (gd gk_164_5 12 rfl) (gd gk_164_5 13 rfl) (gd gk_164_5 14 rfl) rfl rfl ?_
  refine gl_call (as := [.int (gz_b (decide ((I 0 (i + 1)) ≠ 0)))]) (pc := 447) (gd gk_164_5 15 rfl) (by decide) rfl (by decide) rfl rfl (Nat.le_of_ble_eq_true rfl) (by decide +kernel) ⟨rfl, rfl⟩ hc hu (Nat.le_of_ble_eq_true rfl) (hE) (fun r_1 w_1 q_1 => ?_)
  obtain ⟨rfl, I2, J2, rfl, e2, hv⟩ := q_1
  exact gs_icmp_eq (pc := 450) (gd gk_164_5 16 rfl) (fun _ => next I2 J2 e2 hv) (fun q => absurd rfl q)
theorem l_bestChimney (hn : n ≤ 320) (hi : i + 5 ≤ n) (hc : cu ≤ gm_c 164) (hu : su ≤ gm_s 164) (h : gv_Inv I J) (next : ∀ I2 J2, I2 0 = I 0 → gv_Inv I2 J2 → gw_E V 164 (1000, [(0, .ref 0), (1, .ref 3), (2, .ref 126), (3, .int (Int32.ofNat i))], [], gS n I2 J2, cu, su) Q) : gw_E V 164 (455, [(0, .ref 0), (1, .ref 3), (2, .ref 126), (3, .int (Int32.ofNat i))], [], gS n I J, cu, su) Q := by
  refine gs_aload_n (pc := 455) (gd gk_164_5 19 rfl) rfl ?_
  refine gl_call (as := []) (pc := 456) (gd gk_164_5 20 rfl) (by decide) rfl (by decide) rfl rfl (Nat.le_of_ble_eq_true rfl) (by decide +kernel) ⟨rfl, rfl⟩ hc hu (Nat.le_of_ble_eq_true rfl) (p_bestChimney (V := V) (n := n)  h) (fun r_0 w_0 q_0 => ?_)
  obtain ⟨y, I1, J1, rfl, rfl, e0, hE⟩ := q_0
  refine gs_aload_n (pc := 459) (gd gk_164_5 21 rfl) rfl ?_
  refine gl_call (as := []) (pc := 460) (gd gk_164_5 22 rfl) (by decide) rfl (by decide) rfl rfl (Nat.le_of_ble_eq_true rfl) (by decide +kernel) ⟨rfl, rfl⟩ hc hu (Nat.le_of_ble_eq_true rfl) (hE) (fun r_1 w_1 q_1 => ?_)
  obtain ⟨rfl, I2, J2, rfl, e2, hv⟩ := q_1
  exact gs_icmp_eq (pc := 463) (gd gk_164_5 23 rfl) (fun _ => next I2 J2 e2 hv) (fun q => absurd rfl q)
theorem l_share (hn : n ≤ 320) (hi : i + 5 ≤ n) (hc : cu ≤ gm_c 164) (hu : su ≤ gm_s 164) (h : gv_Inv I J) (next : ∀ I2 J2, I2 0 = I 0 → gv_Inv I2 J2 → gw_E V 164 (1000, [(0, .ref 0), (1, .ref 3), (2, .ref 126), (3, .int (Int32.ofNat i))], [], gS n I2 J2, cu, su) Q) : gw_E V 164 (468, [(0, .ref 0), (1, .ref 3), (2, .ref 126), (3, .int (Int32.ofNat i))], [], gS n I J, cu, su) Q := by
  refine gs_aload_n (pc := 468) (gd gk_164_5 26 rfl) rfl ?_
  refine gs_aload_n (pc := 469) (gd gk_164_5 27 rfl) rfl ?_
  refine gs_iload_n (pc := 470) (gd gk_164_5 28 rfl) rfl ?_
  refine gs_iconst (pc := 471) (gd gk_164_5 29 rfl) (1) rfl ?_
  refine gs_iadd (pc := 472) (gd gk_164_5 30 rfl) ?_
  refine gs_ialoadK (i + 1) n (pc := 473) (gd gk_164_5 31 rfl) (Or.inr ⟨rfl, by decide⟩) rfl (by omega) (by rw [Int32.ofNat_add]; rfl) (by omega) ?_
  refine gs_aload_n (pc := 474) (gd gk_164_5 32 rfl) rfl ?_
  refine gs_iload_n (pc := 475) (gd gk_164_5 33 rfl) rfl ?_
  refine gs_iconst (pc := 476) (gd gk_164_5 34 rfl) (2) rfl ?_
  refine gs_iadd (pc := 477) (gd gk_164_5 35 rfl) ?_
  refine gs_ialoadK (i + 2) n (pc := 478) (gd gk_164_5 36 rfl) (Or.inr ⟨rfl, by decide⟩) rfl (by omega) (by rw [Int32.ofNat_add]; rfl) (by omega) ?_
  refine gl_bool (pc := 479) (gd gk_164_5 37 rfl) (gd gk_164_5 38 rfl) (gd gk_164_5 39 rfl) (gd gk_164_6 0 rfl) rfl rfl ?_
  refine gl_call (as := [.int (I 0 (i + 1)), .int (gz_b (decide ((I 0 (i + 2)) ≠ 0)))]) (pc := 487) (gd gk_164_6 1 rfl) (by decide) rfl (by decide) rfl rfl (Nat.le_of_ble_eq_true rfl) (by decide +kernel) ⟨rfl, rfl⟩ hc hu (Nat.le_of_ble_eq_true rfl) (p_share (V := V) (n := n) (I 0 (i + 1)) (decide ((I 0 (i + 2)) ≠ 0)) h) (fun r_0 w_0 q_0 => ?_)
  obtain ⟨y, I1, J1, rfl, rfl, e0, hE⟩ := q_0
  refine gs_aload_n (pc := 490) (gd gk_164_6 2 rfl) rfl ?_
  refine gs_aload_n (pc := 491) (gd gk_164_6 3 rfl) rfl ?_
  refine gs_iload_n (pc := 492) (gd gk_164_6 4 rfl) rfl ?_
  refine gs_iconst (pc := 493) (gd gk_164_6 5 rfl) (1) rfl ?_
  refine gs_iadd (pc := 494) (gd gk_164_6 6 rfl) ?_
  refine gs_ialoadK (i + 1) n (pc := 495) (gd gk_164_6 7 rfl) (Or.inr ⟨rfl, by decide⟩) rfl (by omega) (by rw [Int32.ofNat_add]; rfl) (by omega) ?_
  refine gs_as (I 0 (i + 1)) (by rw [e0]) ?_
  refine gs_aload_n (pc := 496) (gd gk_164_6 8 rfl) rfl ?_
  refine gs_iload_n (pc := 497) (gd gk_164_6 9 rfl) rfl ?_
  refine gs_iconst (pc := 498) (gd gk_164_6 10 rfl) (2) rfl ?_
  refine gs_iadd (pc := 499) (gd gk_164_6 11 rfl) ?_
  refine gs_ialoadK (i + 2) n (pc := 500) (gd gk_164_6 12 rfl) (Or.inr ⟨rfl, by decide⟩) rfl (by omega) (by rw [Int32.ofNat_add]; rfl) (by omega) ?_
  refine gs_as (I 0 (i + 2)) (by rw [e0]) ?_
  refine gl_bool (pc := 501) (gd gk_164_6 13 rfl) (gd gk_164_6 14 rfl) (gd gk_164_6 15 rfl) (gd gk_164_6 16 rfl) rfl rfl ?_
  refine gl_call (as := [.int (I 0 (i + 1)), .int (gz_b (decide ((I 0 (i + 2)) ≠ 0)))]) (pc := 509) (gd gk_164_6 17 rfl) (by decide) rfl (by decide) rfl rfl (Nat.le_of_ble_eq_true rfl) (by decide +kernel) ⟨rfl, rfl⟩ hc hu (Nat.le_of_ble_eq_true rfl) (hE) (fun r_1 w_1 q_1 => ?_)
  obtain ⟨rfl, I2, J2, rfl, e2, hv⟩ := q_1
  exact gs_icmp_eq (pc := 512) (gd gk_164_6 18 rfl) (fun _ => next I2 J2 e2 hv) (fun q => absurd rfl q)
theorem l_judge (hn : n ≤ 320) (hi : i + 5 ≤ n) (hc : cu ≤ gm_c 164) (hu : su ≤ gm_s 164) (h : gv_Inv I J) (next : ∀ I2 J2, I2 0 = I 0 → gv_Inv I2 J2 → gw_E V 164 (1000, [(0, .ref 0), (1, .ref 3), (2, .ref 126), (3, .int (Int32.ofNat i))], [], gS n I2 J2, cu, su) Q) : gw_E V 164 (517, [(0, .ref 0), (1, .ref 3), (2, .ref 126), (3, .int (Int32.ofNat i))], [], gS n I J, cu, su) Q := by
  refine gs_aload_n (pc := 517) (gd gk_164_6 21 rfl) rfl ?_
  refine gs_aload_n (pc := 518) (gd gk_164_6 22 rfl) rfl ?_
  refine gs_iload_n (pc := 519) (gd gk_164_6 23 rfl) rfl ?_
  refine gs_iconst (pc := 520) (gd gk_164_6 24 rfl) (1) rfl ?_
  refine gs_iadd (pc := 521) (gd gk_164_6 25 rfl) ?_
  refine gs_ialoadK (i + 1) n (pc := 522) (gd gk_164_6 26 rfl) (Or.inr ⟨rfl, by decide⟩) rfl (by omega) (by rw [Int32.ofNat_add]; rfl) (by omega) ?_
  refine gs_aload_n (pc := 523) (gd gk_164_6 27 rfl) rfl ?_
  refine gs_iload_n (pc := 524) (gd gk_164_6 28 rfl) rfl ?_
  refine gs_iconst (pc := 525) (gd gk_164_6 29 rfl) (2) rfl ?_
  refine gs_iadd (pc := 526) (gd gk_164_6 30 rfl) ?_
  refine gs_ialoadK (i + 2) n (pc := 527) (gd gk_164_6 31 rfl) (Or.inr ⟨rfl, by decide⟩) rfl (by omega) (by rw [Int32.ofNat_add]; rfl) (by omega) ?_
  refine gl_call (as := [.int (I 0 (i + 1)), .int (I 0 (i + 2))]) (pc := 528) (gd gk_164_6 32 rfl) (by decide) rfl (by decide) rfl rfl (Nat.le_of_ble_eq_true rfl) (by decide +kernel) ⟨rfl, rfl⟩ hc hu (Nat.le_of_ble_eq_true rfl) (p_judge (V := V) (n := n) (I 0 (i + 1)) (I 0 (i + 2)) h) (fun r_0 w_0 q_0 => ?_)
  obtain ⟨y, I1, J1, rfl, rfl, e0, hE⟩ := q_0
  refine gs_aload_n (pc := 531) (gd gk_164_6 33 rfl) rfl ?_
  refine gs_aload_n (pc := 532) (gd gk_164_6 34 rfl) rfl ?_
  refine gs_iload_n (pc := 533) (gd gk_164_6 35 rfl) rfl ?_
  refine gs_iconst (pc := 534) (gd gk_164_6 36 rfl) (1) rfl ?_
  refine gs_iadd (pc := 535) (gd gk_164_6 37 rfl) ?_
  refine gs_ialoadK (i + 1) n (pc := 536) (gd gk_164_6 38 rfl) (Or.inr ⟨rfl, by decide⟩) rfl (by omega) (by rw [Int32.ofNat_add]; rfl) (by omega) ?_
  refine gs_as (I 0 (i + 1)) (by rw [e0]) ?_
  refine gs_aload_n (pc := 537) (gd gk_164_6 39 rfl) rfl ?_
  refine gs_iload_n (pc := 538) (gd gk_164_7 0 rfl) rfl ?_
  refine gs_iconst (pc := 539) (gd gk_164_7 1 rfl) (2) rfl ?_
  refine gs_iadd (pc := 540) (gd gk_164_7 2 rfl) ?_
  refine gs_ialoadK (i + 2) n (pc := 541) (gd gk_164_7 3 rfl) (Or.inr ⟨rfl, by decide⟩) rfl (by omega) (by rw [Int32.ofNat_add]; rfl) (by omega) ?_
  refine gs_as (I 0 (i + 2)) (by rw [e0]) ?_
  refine gl_call (as := [.int (I 0 (i + 1)), .int (I 0 (i + 2))]) (pc := 542) (gd gk_164_7 4 rfl) (by decide) rfl (by decide) rfl rfl (Nat.le_of_ble_eq_true rfl) (by decide +kernel) ⟨rfl, rfl⟩ hc hu (Nat.le_of_ble_eq_true rfl) (hE) (fun r_1 w_1 q_1 => ?_)
  obtain ⟨rfl, I2, J2, rfl, e2, hv⟩ := q_1
  exact gs_icmp_eq (pc := 545) (gd gk_164_7 5 rfl) (fun _ => next I2 J2 e2 hv) (fun q => absurd rfl q)
theorem l_had (hn : n ≤ 320) (hi : i + 5 ≤ n) (hc : cu ≤ gm_c 164) (hu : su ≤ gm_s 164) (h : gv_Inv I J) (next : ∀ I2 J2, I2 0 = I 0 → gv_Inv I2 J2 → gw_E V 164 (1000, [(0, .ref 0), (1, .ref 3), (2, .ref 126), (3, .int (Int32.ofNat i))], [], gS n I2 J2, cu, su) Q) : gw_E V 164 (550, [(0, .ref 0), (1, .ref 3), (2, .ref 126), (3, .int (Int32.ofNat i))], [], gS n I J, cu, su) Q := by
  refine gs_aload_n (pc := 550) (gd gk_164_7 8 rfl) rfl ?_
  refine gs_aload_n (pc := 551) (gd gk_164_7 9 rfl) rfl ?_
  refine gs_iload_n (pc := 552) (gd gk_164_7 10 rfl) rfl ?_
  refine gs_iconst (pc := 553) (gd gk_164_7 11 rfl) (1) rfl ?_
  refine gs_iadd (pc := 554) (gd gk_164_7 12 rfl) ?_
  refine gs_ialoadK (i + 1) n (pc := 555) (gd gk_164_7 13 rfl) (Or.inr ⟨rfl, by decide⟩) rfl (by omega) (by rw [Int32.ofNat_add]; rfl) (by omega) ?_
  refine gl_call (as := [.int (I 0 (i + 1))]) (pc := 556) (gd gk_164_7 14 rfl) (by decide) rfl (by decide) rfl rfl (Nat.le_of_ble_eq_true rfl) (by decide +kernel) ⟨rfl, rfl⟩ hc hu (Nat.le_of_ble_eq_true rfl) (p_had (V := V) (n := n) (I 0 (i + 1)) h) (fun r_0 w_0 q_0 => ?_)
  obtain ⟨y, I1, J1, rfl, rfl, e0, hE⟩ := q_0
  refine gs_aload_n (pc := 559) (gd gk_164_7 15 rfl) rfl ?_
  refine gs_aload_n (pc := 560) (gd gk_164_7 16 rfl) rfl ?_
  refine gs_iload_n (pc := 561) (gd gk_164_7 17 rfl) rfl ?_
  refine gs_iconst (pc := 562) (gd gk_164_7 18 rfl) (1) rfl ?_
  refine gs_iadd (pc := 563) (gd gk_164_7 19 rfl) ?_
  refine gs_ialoadK (i + 1) n (pc := 564) (gd gk_164_7 20 rfl) (Or.inr ⟨rfl, by decide⟩) rfl (by omega) (by rw [Int32.ofNat_add]; rfl) (by omega) ?_
  refine gs_as (I 0 (i + 1)) (by rw [e0]) ?_
  refine gl_call (as := [.int (I 0 (i + 1))]) (pc := 565) (gd gk_164_7 21 rfl) (by decide) rfl (by decide) rfl rfl (Nat.le_of_ble_eq_true rfl) (by decide +kernel) ⟨rfl, rfl⟩ hc hu (Nat.le_of_ble_eq_true rfl) (hE) (fun r_1 w_1 q_1 => ?_)
  obtain ⟨rfl, I2, J2, rfl, e2, hv⟩ := q_1
  exact gs_icmp_eq (pc := 568) (gd gk_164_7 22 rfl) (fun _ => next I2 J2 e2 hv) (fun q => absurd rfl q)
theorem l_only (hn : n ≤ 320) (hi : i + 5 ≤ n) (hc : cu ≤ gm_c 164) (hu : su ≤ gm_s 164) (h : gv_Inv I J) (next : ∀ I2 J2, I2 0 = I 0 → gv_Inv I2 J2 → gw_E V 164 (1000, [(0, .ref 0), (1, .ref 3), (2, .ref 126), (3, .int (Int32.ofNat i))], [], gS n I2 J2, cu, su) Q) : gw_E V 164 (573, [(0, .ref 0), (1, .ref 3), (2, .ref 126), (3, .int (Int32.ofNat i))], [], gS n I J, cu, su) Q := by
  refine gs_aload_n (pc := 573) (gd gk_164_7 25 rfl) rfl ?_
  refine gs_aload_n (pc := 574) (gd gk_164_7 26 rfl) rfl ?_
  refine gs_iload_n (pc := 575) (gd gk_164_7 27 rfl) rfl ?_
  refine gs_iconst (pc := 576) (gd gk_164_7 28 rfl) (1) rfl ?_
  refine gs_iadd (pc := 577) (gd gk_164_7 29 rfl) ?_
  refine gs_ialoadK (i + 1) n (pc := 578) (gd gk_164_7 30 rfl) (Or.inr ⟨rfl, by decide⟩) rfl (by omega) (by rw [Int32.ofNat_add]; rfl) (by omega) ?_
  refine gl_call (as := [.int (I 0 (i + 1))]) (pc := 579) (gd gk_164_7 31 rfl) (by decide) rfl (by decide) rfl rfl (Nat.le_of_ble_eq_true rfl) (by decide +kernel) ⟨rfl, rfl⟩ hc hu (Nat.le_of_ble_eq_true rfl) (p_only (V := V) (n := n) (I 0 (i + 1)) h) (fun r_0 w_0 q_0 => ?_)
  obtain ⟨y, I1, J1, rfl, rfl, e0, hE⟩ := q_0
  refine gs_aload_n (pc := 582) (gd gk_164_7 32 rfl) rfl ?_
  refine gs_aload_n (pc := 583) (gd gk_164_7 33 rfl) rfl ?_
  refine gs_iload_n (pc := 584) (gd gk_164_7 34 rfl) rfl ?_
  refine gs_iconst (pc := 585) (gd gk_164_7 35 rfl) (1) rfl ?_
  refine gs_iadd (pc := 586) (gd gk_164_7 36 rfl) ?_
  refine gs_ialoadK (i + 1) n (pc := 587) (gd gk_164_7 37 rfl) (Or.inr ⟨rfl, by decide⟩) rfl (by omega) (by rw [Int32.ofNat_add]; rfl) (by omega) ?_
  refine gs_as (I 0 (i + 1)) (by rw [e0]) ?_
  refine gl_call (as := [.int (I 0 (i + 1))]) (pc := 588) (gd gk_164_7 38 rfl) (by decide) rfl (by decide) rfl rfl (Nat.le_of_ble_eq_true rfl) (by decide +kernel) ⟨rfl, rfl⟩ hc hu (Nat.le_of_ble_eq_true rfl) (hE) (fun r_1 w_1 q_1 => ?_)
  obtain ⟨rfl, I2, J2, rfl, e2, hv⟩ := q_1
  exact gs_icmp_eq (pc := 591) (gd gk_164_7 39 rfl) (fun _ => next I2 J2 e2 hv) (fun q => absurd rfl q)
theorem l_see (hn : n ≤ 320) (hi : i + 5 ≤ n) (hc : cu ≤ gm_c 164) (hu : su ≤ gm_s 164) (h : gv_Inv I J) (next : ∀ I2 J2, I2 0 = I 0 → gv_Inv I2 J2 → gw_E V 164 (1000, [(0, .ref 0), (1, .ref 3), (2, .ref 126), (3, .int (Int32.ofNat i))], [], gS n I2 J2, cu, su) Q) : gw_E V 164 (596, [(0, .ref 0), (1, .ref 3), (2, .ref 126), (3, .int (Int32.ofNat i))], [], gS n I J, cu, su) Q := by
  refine gs_aload_n (pc := 596) (gd gk_164_8 2 rfl) rfl ?_
  refine gs_aload_n (pc := 597) (gd gk_164_8 3 rfl) rfl ?_
  refine gs_iload_n (pc := 598) (gd gk_164_8 4 rfl) rfl ?_
  refine gs_iconst (pc := 599) (gd gk_164_8 5 rfl) (1) rfl ?_
  refine gs_iadd (pc := 600) (gd gk_164_8 6 rfl) ?_
  refine gs_ialoadK (i + 1) n (pc := 601) (gd gk_164_8 7 rfl) (Or.inr ⟨rfl, by decide⟩) rfl (by omega) (by rw [Int32.ofNat_add]; rfl) (by omega) ?_
  refine gs_aload_n (pc := 602) (gd gk_164_8 8 rfl) rfl ?_
  refine gs_iload_n (pc := 603) (gd gk_164_8 9 rfl) rfl ?_
  refine gs_iconst (pc := 604) (gd gk_164_8 10 rfl) (2) rfl ?_
  refine gs_iadd (pc := 605) (gd gk_164_8 11 rfl) ?_
  refine gs_ialoadK (i + 2) n (pc := 606) (gd gk_164_8 12 rfl) (Or.inr ⟨rfl, by decide⟩) rfl (by omega) (by rw [Int32.ofNat_add]; rfl) (by omega) ?_
  refine gs_aload_n (pc := 607) (gd gk_164_8 13 rfl) rfl ?_
  refine gs_iload_n (pc := 608) (gd gk_164_8 14 rfl) rfl ?_
  refine gs_iconst (pc := 609) (gd gk_164_8 15 rfl) (3) rfl ?_
  refine gs_iadd (pc := 610) (gd gk_164_8 16 rfl) ?_
  refine gs_ialoadK (i + 3) n (pc := 611) (gd gk_164_8 17 rfl) (Or.inr ⟨rfl, by decide⟩) rfl (by omega) (by rw [Int32.ofNat_add]; rfl) (by omega) ?_
  refine gl_bool (pc := 612) (gd gk_164_8 18 rfl) (gd gk_164_8 19 rfl) (gd gk_164_8 20 rfl) (gd gk_164_8 21 rfl) rfl rfl ?_
  refine gl_call (as := [.int (I 0 (i + 1)), .int (I 0 (i + 2)), .int (gz_b (decide ((I 0 (i + 3)) ≠ 0)))]) (pc := 620) (gd gk_164_8 22 rfl) (by decide) rfl (by decide) rfl rfl (Nat.le_of_ble_eq_true rfl) (by decide +kernel) ⟨rfl, rfl⟩ hc hu (Nat.le_of_ble_eq_true rfl) (p_see (V := V) (n := n) (I 0 (i + 1)) (I 0 (i + 2)) (decide ((I 0 (i + 3)) ≠ 0)) h) (fun r_0 w_0 q_0 => ?_)
  obtain ⟨y, I1, J1, rfl, rfl, e0, hE⟩ := q_0
  refine gs_aload_n (pc := 623) (gd gk_164_8 23 rfl) rfl ?_
  refine gs_aload_n (pc := 624) (gd gk_164_8 24 rfl) rfl ?_
  refine gs_iload_n (pc := 625) (gd gk_164_8 25 rfl) rfl ?_
  refine gs_iconst (pc := 626) (gd gk_164_8 26 rfl) (1) rfl ?_
  refine gs_iadd (pc := 627) (gd gk_164_8 27 rfl) ?_
  refine gs_ialoadK (i + 1) n (pc := 628) (gd gk_164_8 28 rfl) (Or.inr ⟨rfl, by decide⟩) rfl (by omega) (by rw [Int32.ofNat_add]; rfl) (by omega) ?_
  refine gs_as (I 0 (i + 1)) (by rw [e0]) ?_
  refine gs_aload_n (pc := 629) (gd gk_164_8 29 rfl) rfl ?_
  refine gs_iload_n (pc := 630) (gd gk_164_8 30 rfl) rfl ?_
  refine gs_iconst (pc := 631) (gd gk_164_8 31 rfl) (2) rfl ?_
  refine gs_iadd (pc := 632) (gd gk_164_8 32 rfl) ?_
  refine gs_ialoadK (i + 2) n (pc := 633) (gd gk_164_8 33 rfl) (Or.inr ⟨rfl, by decide⟩) rfl (by omega) (by rw [Int32.ofNat_add]; rfl) (by omega) ?_
  refine gs_as (I 0 (i + 2)) (by rw [e0]) ?_
  refine gs_aload_n (pc := 634) (gd gk_164_8 34 rfl) rfl ?_
  refine gs_iload_n (pc := 635) (gd gk_164_8 35 rfl) rfl ?_
  refine gs_iconst (pc := 636) (gd gk_164_8 36 rfl) (3) rfl ?_
  refine gs_iadd (pc := 637) (gd gk_164_8 37 rfl) ?_
  refine gs_ialoadK (i + 3) n (pc := 638) (gd gk_164_8 38 rfl) (Or.inr ⟨rfl, by decide⟩) rfl (by omega) (by rw [Int32.ofNat_add]; rfl) (by omega) ?_
  refine gs_as (I 0 (i + 3)) (by rw [e0]) ?_
  refine gl_bool (pc := 639) (gd gk_164_8 39 rfl) (gd gk_164_9 0 rfl) (gd gk_164_9 1 rfl) (gd gk_164_9 2 rfl) rfl rfl ?_
  refine gl_call (as := [.int (I 0 (i + 1)), .int (I 0 (i + 2)), .int (gz_b (decide ((I 0 (i + 3)) ≠ 0)))]) (pc := 647) (gd gk_164_9 3 rfl) (by decide) rfl (by decide) rfl rfl (Nat.le_of_ble_eq_true rfl) (by decide +kernel) ⟨rfl, rfl⟩ hc hu (Nat.le_of_ble_eq_true rfl) (hE) (fun r_1 w_1 q_1 => ?_)
  obtain ⟨rfl, I2, J2, rfl, e2, hv⟩ := q_1
  exact gs_icmp_eq (pc := 650) (gd gk_164_9 4 rfl) (fun _ => next I2 J2 e2 hv) (fun q => absurd rfl q)
theorem l_unsee (hn : n ≤ 320) (hi : i + 5 ≤ n) (hc : cu ≤ gm_c 164) (hu : su ≤ gm_s 164) (h : gv_Inv I J) (next : ∀ I2 J2, I2 0 = I 0 → gv_Inv I2 J2 → gw_E V 164 (1000, [(0, .ref 0), (1, .ref 3), (2, .ref 126), (3, .int (Int32.ofNat i))], [], gS n I2 J2, cu, su) Q) : gw_E V 164 (655, [(0, .ref 0), (1, .ref 3), (2, .ref 126), (3, .int (Int32.ofNat i))], [], gS n I J, cu, su) Q := by
  refine gs_aload_n (pc := 655) (gd gk_164_9 7 rfl) rfl ?_
  refine gl_call (as := []) (pc := 656) (gd gk_164_9 8 rfl) (by decide) rfl (by decide) rfl rfl (Nat.le_of_ble_eq_true rfl) (by decide +kernel) ⟨rfl, rfl⟩ hc hu (Nat.le_of_ble_eq_true rfl) (p_unsee (V := V) (n := n)  h) (fun r_0 w_0 q_0 => ?_)
  obtain ⟨y, I1, J1, rfl, rfl, e0, hE⟩ := q_0
  refine gs_aload_n (pc := 659) (gd gk_164_9 9 rfl) rfl ?_
  refine gl_call (as := []) (pc := 660) (gd gk_164_9 10 rfl) (by decide) rfl (by decide) rfl rfl (Nat.le_of_ble_eq_true rfl) (by decide +kernel) ⟨rfl, rfl⟩ hc hu (Nat.le_of_ble_eq_true rfl) (hE) (fun r_1 w_1 q_1 => ?_)
  obtain ⟨rfl, I2, J2, rfl, e2, hv⟩ := q_1
  exact gs_icmp_eq (pc := 663) (gd gk_164_9 11 rfl) (fun _ => next I2 J2 e2 hv) (fun q => absurd rfl q)
theorem l_when (hn : n ≤ 320) (hi : i + 5 ≤ n) (hc : cu ≤ gm_c 164) (hu : su ≤ gm_s 164) (h : gv_Inv I J) (next : ∀ I2 J2, I2 0 = I 0 → gv_Inv I2 J2 → gw_E V 164 (1000, [(0, .ref 0), (1, .ref 3), (2, .ref 126), (3, .int (Int32.ofNat i))], [], gS n I2 J2, cu, su) Q) : gw_E V 164 (668, [(0, .ref 0), (1, .ref 3), (2, .ref 126), (3, .int (Int32.ofNat i))], [], gS n I J, cu, su) Q := by
  refine gs_aload_n (pc := 668) (gd gk_164_9 14 rfl) rfl ?_
  refine gs_aload_n (pc := 669) (gd gk_164_9 15 rfl) rfl ?_
  refine gs_iload_n (pc := 670) (gd gk_164_9 16 rfl) rfl ?_
  refine gs_iconst (pc := 671) (gd gk_164_9 17 rfl) (1) rfl ?_
  refine gs_iadd (pc := 672) (gd gk_164_9 18 rfl) ?_
  refine gs_ialoadK (i + 1) n (pc := 673) (gd gk_164_9 19 rfl) (Or.inr ⟨rfl, by decide⟩) rfl (by omega) (by rw [Int32.ofNat_add]; rfl) (by omega) ?_
  refine gl_call (as := [.int (I 0 (i + 1))]) (pc := 674) (gd gk_164_9 20 rfl) (by decide) rfl (by decide) rfl rfl (Nat.le_of_ble_eq_true rfl) (by decide +kernel) ⟨rfl, rfl⟩ hc hu (Nat.le_of_ble_eq_true rfl) (p_when (V := V) (n := n) (I 0 (i + 1)) h) (fun r_0 w_0 q_0 => ?_)
  obtain ⟨y, I1, J1, rfl, rfl, e0, hE⟩ := q_0
  refine gs_aload_n (pc := 677) (gd gk_164_9 21 rfl) rfl ?_
  refine gs_aload_n (pc := 678) (gd gk_164_9 22 rfl) rfl ?_
  refine gs_iload_n (pc := 679) (gd gk_164_9 23 rfl) rfl ?_
  refine gs_iconst (pc := 680) (gd gk_164_9 24 rfl) (1) rfl ?_
  refine gs_iadd (pc := 681) (gd gk_164_9 25 rfl) ?_
  refine gs_ialoadK (i + 1) n (pc := 682) (gd gk_164_9 26 rfl) (Or.inr ⟨rfl, by decide⟩) rfl (by omega) (by rw [Int32.ofNat_add]; rfl) (by omega) ?_
  refine gs_as (I 0 (i + 1)) (by rw [e0]) ?_
  refine gl_call (as := [.int (I 0 (i + 1))]) (pc := 683) (gd gk_164_9 27 rfl) (by decide) rfl (by decide) rfl rfl (Nat.le_of_ble_eq_true rfl) (by decide +kernel) ⟨rfl, rfl⟩ hc hu (Nat.le_of_ble_eq_true rfl) (hE) (fun r_1 w_1 q_1 => ?_)
  obtain ⟨rfl, I2, J2, rfl, e2, hv⟩ := q_1
  exact gs_icmp_eq (pc := 686) (gd gk_164_9 28 rfl) (fun _ => next I2 J2 e2 hv) (fun q => absurd rfl q)
theorem l_mean (hn : n ≤ 320) (hi : i + 5 ≤ n) (hc : cu ≤ gm_c 164) (hu : su ≤ gm_s 164) (h : gv_Inv I J) (next : ∀ I2 J2, I2 0 = I 0 → gv_Inv I2 J2 → gw_E V 164 (1000, [(0, .ref 0), (1, .ref 3), (2, .ref 126), (3, .int (Int32.ofNat i))], [], gS n I2 J2, cu, su) Q) : gw_E V 164 (691, [(0, .ref 0), (1, .ref 3), (2, .ref 126), (3, .int (Int32.ofNat i))], [], gS n I J, cu, su) Q := by
  refine gs_aload_n (pc := 691) (gd gk_164_9 31 rfl) rfl ?_
  refine gs_aload_n (pc := 692) (gd gk_164_9 32 rfl) rfl ?_
  refine gs_iload_n (pc := 693) (gd gk_164_9 33 rfl) rfl ?_
  refine gs_iconst (pc := 694) (gd gk_164_9 34 rfl) (1) rfl ?_
  refine gs_iadd (pc := 695) (gd gk_164_9 35 rfl) ?_
  refine gs_ialoadK (i + 1) n (pc := 696) (gd gk_164_9 36 rfl) (Or.inr ⟨rfl, by decide⟩) rfl (by omega) (by rw [Int32.ofNat_add]; rfl) (by omega) ?_
  refine gs_aload_n (pc := 697) (gd gk_164_9 37 rfl) rfl ?_
  refine gs_iload_n (pc := 698) (gd gk_164_9 38 rfl) rfl ?_
  refine gs_iconst (pc := 699) (gd gk_164_9 39 rfl) (2) rfl ?_
  refine gs_iadd (pc := 700) (gd gk_164_10 0 rfl) ?_
  refine gs_ialoadK (i + 2) n (pc := 701) (gd gk_164_10 1 rfl) (Or.inr ⟨rfl, by decide⟩) rfl (by omega) (by rw [Int32.ofNat_add]; rfl) (by omega) ?_
  refine gs_aload_n (pc := 702) (gd gk_164_10 2 rfl) rfl ?_
  refine gs_iload_n (pc := 703) (gd gk_164_10 3 rfl) rfl ?_
  refine gs_iconst (pc := 704) (gd gk_164_10 4 rfl) (3) rfl ?_
  refine gs_iadd (pc := 705) (gd gk_164_10 5 rfl) ?_
  refine gs_ialoadK (i + 3) n (pc := 706) (gd gk_164_10 6 rfl) (Or.inr ⟨rfl, by decide⟩) rfl (by omega) (by rw [Int32.ofNat_add]; rfl) (by omega) ?_
  refine gl_bool (pc := 707) (gd gk_164_10 7 rfl) (gd gk_164_10 8 rfl) (gd gk_164_10 9 rfl) (gd gk_164_10 10 rfl) rfl rfl ?_
  refine gl_call (as := [.int (I 0 (i + 1)), .int (I 0 (i + 2)), .int (gz_b (decide ((I 0 (i + 3)) ≠ 0)))]) (pc := 715) (gd gk_164_10 11 rfl) (by decide) rfl (by decide) rfl rfl (Nat.le_of_ble_eq_true rfl) (by decide +kernel) ⟨rfl, rfl⟩ hc hu (Nat.le_of_ble_eq_true rfl) (p_mean (V := V) (n := n) (I 0 (i + 1)) (I 0 (i + 2)) (decide ((I 0 (i + 3)) ≠ 0)) h) (fun r_0 w_0 q_0 => ?_)
  obtain ⟨y, I1, J1, rfl, rfl, e0, hE⟩ := q_0
  refine gs_aload_n (pc := 718) (gd gk_164_10 12 rfl) rfl ?_
  refine gs_aload_n (pc := 719) (gd gk_164_10 13 rfl) rfl ?_
  refine gs_iload_n (pc := 720) (gd gk_164_10 14 rfl) rfl ?_
  refine gs_iconst (pc := 721) (gd gk_164_10 15 rfl) (1) rfl ?_
  refine gs_iadd (pc := 722) (gd gk_164_10 16 rfl) ?_
  refine gs_ialoadK (i + 1) n (pc := 723) (gd gk_164_10 17 rfl) (Or.inr ⟨rfl, by decide⟩) rfl (by omega) (by rw [Int32.ofNat_add]; rfl) (by omega) ?_
  refine gs_as (I 0 (i + 1)) (by rw [e0]) ?_
  refine gs_aload_n (pc := 724) (gd gk_164_10 18 rfl) rfl ?_
  refine gs_iload_n (pc := 725) (gd gk_164_10 19 rfl) rfl ?_
  refine gs_iconst (pc := 726) (gd gk_164_10 20 rfl) (2) rfl ?_
  refine gs_iadd (pc := 727) (gd gk_164_10 21 rfl) ?_
  refine gs_ialoadK (i + 2) n (pc := 728) (gd gk_164_10 22 rfl) (Or.inr ⟨rfl, by decide⟩) rfl (by omega) (by rw [Int32.ofNat_add]; rfl) (by omega) ?_
  refine gs_as (I 0 (i + 2)) (by rw [e0]) ?_
  refine gs_aload_n (pc := 729) (gd gk_164_10 23 rfl) rfl ?_
  refine gs_iload_n (pc := 730) (gd gk_164_10 24 rfl) rfl ?_
  refine gs_iconst (pc := 731) (gd gk_164_10 25 rfl) (3) rfl ?_
  refine gs_iadd (pc := 732) (gd gk_164_10 26 rfl) ?_
  refine gs_ialoadK (i + 3) n (pc := 733) (gd gk_164_10 27 rfl) (Or.inr ⟨rfl, by decide⟩) rfl (by omega) (by rw [Int32.ofNat_add]; rfl) (by omega) ?_
  refine gs_as (I 0 (i + 3)) (by rw [e0]) ?_
  refine gl_bool (pc := 734) (gd gk_164_10 28 rfl) (gd gk_164_10 29 rfl) (gd gk_164_10 30 rfl) (gd gk_164_10 31 rfl) rfl rfl ?_
  refine gl_call (as := [.int (I 0 (i + 1)), .int (I 0 (i + 2)), .int (gz_b (decide ((I 0 (i + 3)) ≠ 0)))]) (pc := 742) (gd gk_164_10 32 rfl) (by decide) rfl (by decide) rfl rfl (Nat.le_of_ble_eq_true rfl) (by decide +kernel) ⟨rfl, rfl⟩ hc hu (Nat.le_of_ble_eq_true rfl) (hE) (fun r_1 w_1 q_1 => ?_)
  obtain ⟨rfl, I2, J2, rfl, e2, hv⟩ := q_1
  refine gs_lcmp (pc := 745) (gd gk_164_10 33 rfl) ?_
  exact gs_if_eq (pc := 746) (gd gk_164_10 34 rfl) (fun _ => next I2 J2 e2 hv) (fun q => absurd ((zcmp_eq y y).mpr rfl) q)
theorem l_fair (hn : n ≤ 320) (hi : i + 5 ≤ n) (hc : cu ≤ gm_c 164) (hu : su ≤ gm_s 164) (h : gv_Inv I J) (next : ∀ I2 J2, I2 0 = I 0 → gv_Inv I2 J2 → gw_E V 164 (1000, [(0, .ref 0), (1, .ref 3), (2, .ref 126), (3, .int (Int32.ofNat i))], [], gS n I2 J2, cu, su) Q) : gw_E V 164 (751, [(0, .ref 0), (1, .ref 3), (2, .ref 126), (3, .int (Int32.ofNat i))], [], gS n I J, cu, su) Q := by
  refine gs_aload_n (pc := 751) (gd gk_164_10 37 rfl) rfl ?_
  refine gs_aload_n (pc := 752) (gd gk_164_10 38 rfl) rfl ?_
  refine gs_iload_n (pc := 753) (gd gk_164_10 39 rfl) rfl ?_
  refine gs_iconst (pc := 754) (gd gk_164_11 0 rfl) (1) rfl ?_
  refine gs_iadd (pc := 755) (gd gk_164_11 1 rfl) ?_
  refine gs_ialoadK (i + 1) n (pc := 756) (gd gk_164_11 2 rfl) (Or.inr ⟨rfl, by decide⟩) rfl (by omega) (by rw [Int32.ofNat_add]; rfl) (by omega) ?_
  refine gs_aload_n (pc := 757) (gd gk_164_11 3 rfl) rfl ?_
  refine gs_iload_n (pc := 758) (gd gk_164_11 4 rfl) rfl ?_
  refine gs_iconst (pc := 759) (gd gk_164_11 5 rfl) (2) rfl ?_
  refine gs_iadd (pc := 760) (gd gk_164_11 6 rfl) ?_
  refine gs_ialoadK (i + 2) n (pc := 761) (gd gk_164_11 7 rfl) (Or.inr ⟨rfl, by decide⟩) rfl (by omega) (by rw [Int32.ofNat_add]; rfl) (by omega) ?_
  refine gs_aload_n (pc := 762) (gd gk_164_11 8 rfl) rfl ?_
  refine gs_iload_n (pc := 763) (gd gk_164_11 9 rfl) rfl ?_
  refine gs_iconst (pc := 764) (gd gk_164_11 10 rfl) (3) rfl ?_
  refine gs_iadd (pc := 765) (gd gk_164_11 11 rfl) ?_
  refine gs_ialoadK (i + 3) n (pc := 766) (gd gk_164_11 12 rfl) (Or.inr ⟨rfl, by decide⟩) rfl (by omega) (by rw [Int32.ofNat_add]; rfl) (by omega) ?_
  refine gs_aload_n (pc := 767) (gd gk_164_11 13 rfl) rfl ?_
  refine gs_iload_n (pc := 768) (gd gk_164_11 14 rfl) rfl ?_
  refine gs_iconst (pc := 769) (gd gk_164_11 15 rfl) (4) rfl ?_
  refine gs_iadd (pc := 770) (gd gk_164_11 16 rfl) ?_
  refine gs_ialoadK (i + 4) n (pc := 771) (gd gk_164_11 17 rfl) (Or.inr ⟨rfl, by decide⟩) rfl (by omega) (by rw [Int32.ofNat_add]; rfl) (by omega) ?_
  refine gl_bool (pc := 772) (gd gk_164_11 18 rfl) (gd gk_164_11 19 rfl) (gd gk_164_11 20 rfl) (gd gk_164_11 21 rfl) rfl rfl ?_
  refine gl_call (as := [.int (I 0 (i + 1)), .int (I 0 (i + 2)), .int (I 0 (i + 3)), .int (gz_b (decide ((I 0 (i + 4)) ≠ 0)))]) (pc := 780) (gd gk_164_11 22 rfl) (by decide) rfl (by decide) rfl rfl (Nat.le_of_ble_eq_true rfl) (by decide +kernel) ⟨rfl, rfl⟩ hc hu (Nat.le_of_ble_eq_true rfl) (p_fair (V := V) (n := n) (I 0 (i + 1)) (I 0 (i + 2)) (I 0 (i + 3)) (decide ((I 0 (i + 4)) ≠ 0)) h) (fun r_0 w_0 q_0 => ?_)
  obtain ⟨y, I1, J1, rfl, rfl, e0, hE⟩ := q_0
  refine gs_aload_n (pc := 783) (gd gk_164_11 23 rfl) rfl ?_
  refine gs_aload_n (pc := 784) (gd gk_164_11 24 rfl) rfl ?_
  refine gs_iload_n (pc := 785) (gd gk_164_11 25 rfl) rfl ?_
  refine gs_iconst (pc := 786) (gd gk_164_11 26 rfl) (1) rfl ?_
  refine gs_iadd (pc := 787) (gd gk_164_11 27 rfl) ?_
  refine gs_ialoadK (i + 1) n (pc := 788) (gd gk_164_11 28 rfl) (Or.inr ⟨rfl, by decide⟩) rfl (by omega) (by rw [Int32.ofNat_add]; rfl) (by omega) ?_
  refine gs_as (I 0 (i + 1)) (by rw [e0]) ?_
  refine gs_aload_n (pc := 789) (gd gk_164_11 29 rfl) rfl ?_
  refine gs_iload_n (pc := 790) (gd gk_164_11 30 rfl) rfl ?_
  refine gs_iconst (pc := 791) (gd gk_164_11 31 rfl) (2) rfl ?_
  refine gs_iadd (pc := 792) (gd gk_164_11 32 rfl) ?_
  refine gs_ialoadK (i + 2) n (pc := 793) (gd gk_164_11 33 rfl) (Or.inr ⟨rfl, by decide⟩) rfl (by omega) (by rw [Int32.ofNat_add]; rfl) (by omega) ?_
  refine gs_as (I 0 (i + 2)) (by rw [e0]) ?_
  refine gs_aload_n (pc := 794) (gd gk_164_11 34 rfl) rfl ?_
  refine gs_iload_n (pc := 795) (gd gk_164_11 35 rfl) rfl ?_
  refine gs_iconst (pc := 796) (gd gk_164_11 36 rfl) (3) rfl ?_
  refine gs_iadd (pc := 797) (gd gk_164_11 37 rfl) ?_
  refine gs_ialoadK (i + 3) n (pc := 798) (gd gk_164_11 38 rfl) (Or.inr ⟨rfl, by decide⟩) rfl (by omega) (by rw [Int32.ofNat_add]; rfl) (by omega) ?_
  refine gs_as (I 0 (i + 3)) (by rw [e0]) ?_
  refine gs_aload_n (pc := 799) (gd gk_164_11 39 rfl) rfl ?_
  refine gs_iload_n (pc := 800) (gd gk_164_12 0 rfl) rfl ?_
  refine gs_iconst (pc := 801) (gd gk_164_12 1 rfl) (4) rfl ?_
  refine gs_iadd (pc := 802) (gd gk_164_12 2 rfl) ?_
  refine gs_ialoadK (i + 4) n (pc := 803) (gd gk_164_12 3 rfl) (Or.inr ⟨rfl, by decide⟩) rfl (by omega) (by rw [Int32.ofNat_add]; rfl) (by omega) ?_
  refine gs_as (I 0 (i + 4)) (by rw [e0]) ?_
  refine gl_bool (pc := 804) (gd gk_164_12 4 rfl) (gd gk_164_12 5 rfl) (gd gk_164_12 6 rfl) (gd gk_164_12 7 rfl) rfl rfl ?_
  refine gl_call (as := [.int (I 0 (i + 1)), .int (I 0 (i + 2)), .int (I 0 (i + 3)), .int (gz_b (decide ((I 0 (i + 4)) ≠ 0)))]) (pc := 812) (gd gk_164_12 8 rfl) (by decide) rfl (by decide) rfl rfl (Nat.le_of_ble_eq_true rfl) (by decide +kernel) ⟨rfl, rfl⟩ hc hu (Nat.le_of_ble_eq_true rfl) (hE) (fun r_1 w_1 q_1 => ?_)
  obtain ⟨rfl, I2, J2, rfl, e2, hv⟩ := q_1
  refine gs_lcmp (pc := 815) (gd gk_164_12 9 rfl) ?_
  exact gs_if_eq (pc := 816) (gd gk_164_12 10 rfl) (fun _ => next I2 J2 e2 hv) (fun q => absurd ((zcmp_eq y y).mpr rfl) q)
theorem l_bakers (hn : n ≤ 320) (hi : i + 5 ≤ n) (hc : cu ≤ gm_c 164) (hu : su ≤ gm_s 164) (h : gv_Inv I J) (next : ∀ I2 J2, I2 0 = I 0 → gv_Inv I2 J2 → gw_E V 164 (1000, [(0, .ref 0), (1, .ref 3), (2, .ref 126), (3, .int (Int32.ofNat i))], [], gS n I2 J2, cu, su) Q) : gw_E V 164 (821, [(0, .ref 0), (1, .ref 3), (2, .ref 126), (3, .int (Int32.ofNat i))], [], gS n I J, cu, su) Q := by
  refine gs_aload_n (pc := 821) (gd gk_164_12 13 rfl) rfl ?_
  refine gs_aload_n (pc := 822) (gd gk_164_12 14 rfl) rfl ?_
  refine gs_iload_n (pc := 823) (gd gk_164_12 15 rfl) rfl ?_
  refine gs_iconst (pc := 824) (gd gk_164_12 16 rfl) (1) rfl ?_
  refine gs_iadd (pc := 825) (gd gk_164_12 17 rfl) ?_
  refine gs_ialoadK (i + 1) n (pc := 826) (gd gk_164_12 18 rfl) (Or.inr ⟨rfl, by decide⟩) rfl (by omega) (by rw [Int32.ofNat_add]; rfl) (by omega) ?_
  refine gs_aload_n (pc := 827) (gd gk_164_12 19 rfl) rfl ?_
  refine gs_iload_n (pc := 828) (gd gk_164_12 20 rfl) rfl ?_
  refine gs_iconst (pc := 829) (gd gk_164_12 21 rfl) (2) rfl ?_
  refine gs_iadd (pc := 830) (gd gk_164_12 22 rfl) ?_
  refine gs_ialoadK (i + 2) n (pc := 831) (gd gk_164_12 23 rfl) (Or.inr ⟨rfl, by decide⟩) rfl (by omega) (by rw [Int32.ofNat_add]; rfl) (by omega) ?_
  refine gl_call (as := [.int (I 0 (i + 1)), .int (I 0 (i + 2))]) (pc := 832) (gd gk_164_12 24 rfl) (by decide) rfl (by decide) rfl rfl (Nat.le_of_ble_eq_true rfl) (by decide +kernel) ⟨rfl, rfl⟩ hc hu (Nat.le_of_ble_eq_true rfl) (p_bakers (V := V) (n := n) (I 0 (i + 1)) (I 0 (i + 2)) h) (fun r_0 w_0 q_0 => ?_)
  obtain ⟨y, I1, J1, rfl, rfl, e0, hE⟩ := q_0
  refine gs_aload_n (pc := 835) (gd gk_164_12 25 rfl) rfl ?_
  refine gs_aload_n (pc := 836) (gd gk_164_12 26 rfl) rfl ?_
  refine gs_iload_n (pc := 837) (gd gk_164_12 27 rfl) rfl ?_
  refine gs_iconst (pc := 838) (gd gk_164_12 28 rfl) (1) rfl ?_
  refine gs_iadd (pc := 839) (gd gk_164_12 29 rfl) ?_
  refine gs_ialoadK (i + 1) n (pc := 840) (gd gk_164_12 30 rfl) (Or.inr ⟨rfl, by decide⟩) rfl (by omega) (by rw [Int32.ofNat_add]; rfl) (by omega) ?_
  refine gs_as (I 0 (i + 1)) (by rw [e0]) ?_
  refine gs_aload_n (pc := 841) (gd gk_164_12 31 rfl) rfl ?_
  refine gs_iload_n (pc := 842) (gd gk_164_12 32 rfl) rfl ?_
  refine gs_iconst (pc := 843) (gd gk_164_12 33 rfl) (2) rfl ?_
  refine gs_iadd (pc := 844) (gd gk_164_12 34 rfl) ?_
  refine gs_ialoadK (i + 2) n (pc := 845) (gd gk_164_12 35 rfl) (Or.inr ⟨rfl, by decide⟩) rfl (by omega) (by rw [Int32.ofNat_add]; rfl) (by omega) ?_
  refine gs_as (I 0 (i + 2)) (by rw [e0]) ?_
  refine gl_call (as := [.int (I 0 (i + 1)), .int (I 0 (i + 2))]) (pc := 846) (gd gk_164_12 36 rfl) (by decide) rfl (by decide) rfl rfl (Nat.le_of_ble_eq_true rfl) (by decide +kernel) ⟨rfl, rfl⟩ hc hu (Nat.le_of_ble_eq_true rfl) (hE) (fun r_1 w_1 q_1 => ?_)
  obtain ⟨rfl, I2, J2, rfl, e2, hv⟩ := q_1
  exact gs_icmp_eq (pc := 849) (gd gk_164_12 37 rfl) (fun _ => next I2 J2 e2 hv) (fun q => absurd rfl q)
theorem l_seed (hn : n ≤ 320) (hi : i + 5 ≤ n) (hc : cu ≤ gm_c 164) (hu : su ≤ gm_s 164) (h : gv_Inv I J) (next : ∀ I2 J2, I2 0 = I 0 → gv_Inv I2 J2 → gw_E V 164 (1000, [(0, .ref 0), (1, .ref 3), (2, .ref 126), (3, .int (Int32.ofNat i))], [], gS n I2 J2, cu, su) Q) : gw_E V 164 (854, [(0, .ref 0), (1, .ref 3), (2, .ref 126), (3, .int (Int32.ofNat i))], [], gS n I J, cu, su) Q := by
  refine gs_aload_n (pc := 854) (gd gk_164_13 0 rfl) rfl ?_
  refine gs_aload_n (pc := 855) (gd gk_164_13 1 rfl) rfl ?_
  refine gs_iload_n (pc := 856) (gd gk_164_13 2 rfl) rfl ?_
  refine gs_iconst (pc := 857) (gd gk_164_13 3 rfl) (1) rfl ?_
  refine gs_iadd (pc := 858) (gd gk_164_13 4 rfl) ?_
  refine gs_ialoadK (i + 1) n (pc := 859) (gd gk_164_13 5 rfl) (Or.inr ⟨rfl, by decide⟩) rfl (by omega) (by rw [Int32.ofNat_add]; rfl) (by omega) ?_
  refine gs_i2l (pc := 860) (gd gk_164_13 6 rfl) ?_
  refine gs_bipush (pc := 861) (gd gk_164_13 7 rfl) (32) rfl ?_
  refine gs_lshl (pc := 863) (gd gk_164_13 8 rfl) ?_
  refine gs_aload_n (pc := 864) (gd gk_164_13 9 rfl) rfl ?_
  refine gs_iload_n (pc := 865) (gd gk_164_13 10 rfl) rfl ?_
  refine gs_iconst (pc := 866) (gd gk_164_13 11 rfl) (2) rfl ?_
  refine gs_iadd (pc := 867) (gd gk_164_13 12 rfl) ?_
  refine gs_ialoadK (i + 2) n (pc := 868) (gd gk_164_13 13 rfl) (Or.inr ⟨rfl, by decide⟩) rfl (by omega) (by rw [Int32.ofNat_add]; rfl) (by omega) ?_
  refine gs_i2l (pc := 869) (gd gk_164_13 14 rfl) ?_
  refine gs_ldc2_w (pc := 870) (gd gk_164_13 15 rfl) (4294967295) rfl ?_
  refine gs_land (pc := 873) (gd gk_164_13 16 rfl) ?_
  refine gs_lor (pc := 874) (gd gk_164_13 17 rfl) ?_
  refine gl_call (as := [.long (((I 0 (i + 1)).toInt64 <<< ((32 : Int32).toInt64 &&& 63)) ||| ((I 0 (i + 2)).toInt64 &&& 4294967295))]) (pc := 875) (gd gk_164_13 18 rfl) (by decide) rfl (by decide) rfl rfl (Nat.le_of_ble_eq_true rfl) (by decide +kernel) ⟨rfl, rfl⟩ hc hu (Nat.le_of_ble_eq_true rfl) (p_seed (V := V) (n := n) (((I 0 (i + 1)).toInt64 <<< ((32 : Int32).toInt64 &&& 63)) ||| ((I 0 (i + 2)).toInt64 &&& 4294967295)) h) (fun r_0 w_0 q_0 => ?_)
  obtain ⟨y, I1, J1, rfl, rfl, e0, hE⟩ := q_0
  refine gs_aload_n (pc := 878) (gd gk_164_13 19 rfl) rfl ?_
  refine gs_aload_n (pc := 879) (gd gk_164_13 20 rfl) rfl ?_
  refine gs_iload_n (pc := 880) (gd gk_164_13 21 rfl) rfl ?_
  refine gs_iconst (pc := 881) (gd gk_164_13 22 rfl) (1) rfl ?_
  refine gs_iadd (pc := 882) (gd gk_164_13 23 rfl) ?_
  refine gs_ialoadK (i + 1) n (pc := 883) (gd gk_164_13 24 rfl) (Or.inr ⟨rfl, by decide⟩) rfl (by omega) (by rw [Int32.ofNat_add]; rfl) (by omega) ?_
  refine gs_as (I 0 (i + 1)) (by rw [e0]) ?_
  refine gs_i2l (pc := 884) (gd gk_164_13 25 rfl) ?_
  refine gs_bipush (pc := 885) (gd gk_164_13 26 rfl) (32) rfl ?_
  refine gs_lshl (pc := 887) (gd gk_164_13 27 rfl) ?_
  refine gs_aload_n (pc := 888) (gd gk_164_13 28 rfl) rfl ?_
  refine gs_iload_n (pc := 889) (gd gk_164_13 29 rfl) rfl ?_
  refine gs_iconst (pc := 890) (gd gk_164_13 30 rfl) (2) rfl ?_
  refine gs_iadd (pc := 891) (gd gk_164_13 31 rfl) ?_
  refine gs_ialoadK (i + 2) n (pc := 892) (gd gk_164_13 32 rfl) (Or.inr ⟨rfl, by decide⟩) rfl (by omega) (by rw [Int32.ofNat_add]; rfl) (by omega) ?_
  refine gs_as (I 0 (i + 2)) (by rw [e0]) ?_
  refine gs_i2l (pc := 893) (gd gk_164_13 33 rfl) ?_
  refine gs_ldc2_w (pc := 894) (gd gk_164_13 34 rfl) (4294967295) rfl ?_
  refine gs_land (pc := 897) (gd gk_164_13 35 rfl) ?_
  refine gs_lor (pc := 898) (gd gk_164_13 36 rfl) ?_
  refine gl_call (as := [.long (((I 0 (i + 1)).toInt64 <<< ((32 : Int32).toInt64 &&& 63)) ||| ((I 0 (i + 2)).toInt64 &&& 4294967295))]) (pc := 899) (gd gk_164_13 37 rfl) (by decide) rfl (by decide) rfl rfl (Nat.le_of_ble_eq_true rfl) (by decide +kernel) ⟨rfl, rfl⟩ hc hu (Nat.le_of_ble_eq_true rfl) (hE) (fun r_1 w_1 q_1 => ?_)
  obtain ⟨rfl, I2, J2, rfl, e2, hv⟩ := q_1
  refine gs_lcmp (pc := 902) (gd gk_164_13 38 rfl) ?_
  exact gs_if_eq (pc := 903) (gd gk_164_13 39 rfl) (fun _ => next I2 J2 e2 hv) (fun q => absurd ((zcmp_eq y y).mpr rfl) q)
theorem l_mornings (hn : n ≤ 320) (hi : i + 5 ≤ n) (hc : cu ≤ gm_c 164) (hu : su ≤ gm_s 164) (h : gv_Inv I J) (next : ∀ I2 J2, I2 0 = I 0 → gv_Inv I2 J2 → gw_E V 164 (1000, [(0, .ref 0), (1, .ref 3), (2, .ref 126), (3, .int (Int32.ofNat i))], [], gS n I2 J2, cu, su) Q) : gw_E V 164 (908, [(0, .ref 0), (1, .ref 3), (2, .ref 126), (3, .int (Int32.ofNat i))], [], gS n I J, cu, su) Q := by
  refine gs_aload_n (pc := 908) (gd gk_164_14 2 rfl) rfl ?_
  refine gs_aload_n (pc := 909) (gd gk_164_14 3 rfl) rfl ?_
  refine gs_iload_n (pc := 910) (gd gk_164_14 4 rfl) rfl ?_
  refine gs_iconst (pc := 911) (gd gk_164_14 5 rfl) (1) rfl ?_
  refine gs_iadd (pc := 912) (gd gk_164_14 6 rfl) ?_
  refine gs_ialoadK (i + 1) n (pc := 913) (gd gk_164_14 7 rfl) (Or.inr ⟨rfl, by decide⟩) rfl (by omega) (by rw [Int32.ofNat_add]; rfl) (by omega) ?_
  refine gl_call (as := [.int (I 0 (i + 1))]) (pc := 914) (gd gk_164_14 8 rfl) (by decide) rfl (by decide) rfl rfl (Nat.le_of_ble_eq_true rfl) (by decide +kernel) ⟨rfl, rfl⟩ hc hu (Nat.le_of_ble_eq_true rfl) (p_mornings (V := V) (n := n) (I 0 (i + 1)) h) (fun r_0 w_0 q_0 => ?_)
  obtain ⟨y, I1, J1, rfl, rfl, e0, hE⟩ := q_0
  refine gs_aload_n (pc := 917) (gd gk_164_14 9 rfl) rfl ?_
  refine gs_aload_n (pc := 918) (gd gk_164_14 10 rfl) rfl ?_
  refine gs_iload_n (pc := 919) (gd gk_164_14 11 rfl) rfl ?_
  refine gs_iconst (pc := 920) (gd gk_164_14 12 rfl) (1) rfl ?_
  refine gs_iadd (pc := 921) (gd gk_164_14 13 rfl) ?_
  refine gs_ialoadK (i + 1) n (pc := 922) (gd gk_164_14 14 rfl) (Or.inr ⟨rfl, by decide⟩) rfl (by omega) (by rw [Int32.ofNat_add]; rfl) (by omega) ?_
  refine gs_as (I 0 (i + 1)) (by rw [e0]) ?_
  refine gl_call (as := [.int (I 0 (i + 1))]) (pc := 923) (gd gk_164_14 15 rfl) (by decide) rfl (by decide) rfl rfl (Nat.le_of_ble_eq_true rfl) (by decide +kernel) ⟨rfl, rfl⟩ hc hu (Nat.le_of_ble_eq_true rfl) (hE) (fun r_1 w_1 q_1 => ?_)
  obtain ⟨rfl, I2, J2, rfl, e2, hv⟩ := q_1
  exact gs_icmp_eq (pc := 926) (gd gk_164_14 16 rfl) (fun _ => next I2 J2 e2 hv) (fun q => absurd rfl q)
theorem l_keep (hn : n ≤ 320) (hi : i + 5 ≤ n) (hc : cu ≤ gm_c 164) (hu : su ≤ gm_s 164) (h : gv_Inv I J) (next : ∀ I2 J2, I2 0 = I 0 → gv_Inv I2 J2 → gw_E V 164 (1000, [(0, .ref 0), (1, .ref 3), (2, .ref 126), (3, .int (Int32.ofNat i))], [], gS n I2 J2, cu, su) Q) : gw_E V 164 (931, [(0, .ref 0), (1, .ref 3), (2, .ref 126), (3, .int (Int32.ofNat i))], [], gS n I J, cu, su) Q := by
  refine gs_aload_n (pc := 931) (gd gk_164_14 19 rfl) rfl ?_
  refine gs_aload_n (pc := 932) (gd gk_164_14 20 rfl) rfl ?_
  refine gs_iload_n (pc := 933) (gd gk_164_14 21 rfl) rfl ?_
  refine gs_iconst (pc := 934) (gd gk_164_14 22 rfl) (1) rfl ?_
  refine gs_iadd (pc := 935) (gd gk_164_14 23 rfl) ?_
  refine gs_ialoadK (i + 1) n (pc := 936) (gd gk_164_14 24 rfl) (Or.inr ⟨rfl, by decide⟩) rfl (by omega) (by rw [Int32.ofNat_add]; rfl) (by omega) ?_
  refine gl_call (as := [.int (I 0 (i + 1))]) (pc := 937) (gd gk_164_14 25 rfl) (by decide) rfl (by decide) rfl rfl (Nat.le_of_ble_eq_true rfl) (by decide +kernel) ⟨rfl, rfl⟩ hc hu (Nat.le_of_ble_eq_true rfl) (p_keep (V := V) (n := n) (I 0 (i + 1)) h) (fun r_0 w_0 q_0 => ?_)
  obtain ⟨y, I1, J1, rfl, rfl, e0, hE⟩ := q_0
  refine gs_aload_n (pc := 940) (gd gk_164_14 26 rfl) rfl ?_
  refine gs_aload_n (pc := 941) (gd gk_164_14 27 rfl) rfl ?_
  refine gs_iload_n (pc := 942) (gd gk_164_14 28 rfl) rfl ?_
  refine gs_iconst (pc := 943) (gd gk_164_14 29 rfl) (1) rfl ?_
  refine gs_iadd (pc := 944) (gd gk_164_14 30 rfl) ?_
  refine gs_ialoadK (i + 1) n (pc := 945) (gd gk_164_14 31 rfl) (Or.inr ⟨rfl, by decide⟩) rfl (by omega) (by rw [Int32.ofNat_add]; rfl) (by omega) ?_
  refine gs_as (I 0 (i + 1)) (by rw [e0]) ?_
  refine gl_call (as := [.int (I 0 (i + 1))]) (pc := 946) (gd gk_164_14 32 rfl) (by decide) rfl (by decide) rfl rfl (Nat.le_of_ble_eq_true rfl) (by decide +kernel) ⟨rfl, rfl⟩ hc hu (Nat.le_of_ble_eq_true rfl) (hE) (fun r_1 w_1 q_1 => ?_)
  obtain ⟨rfl, I2, J2, rfl, e2, hv⟩ := q_1
  exact gs_icmp_eq (pc := 949) (gd gk_164_14 33 rfl) (fun _ => next I2 J2 e2 hv) (fun q => absurd rfl q)
theorem l_again (hn : n ≤ 320) (hi : i + 5 ≤ n) (hc : cu ≤ gm_c 164) (hu : su ≤ gm_s 164) (h : gv_Inv I J) (next : ∀ I2 J2, I2 0 = I 0 → gv_Inv I2 J2 → gw_E V 164 (1000, [(0, .ref 0), (1, .ref 3), (2, .ref 126), (3, .int (Int32.ofNat i))], [], gS n I2 J2, cu, su) Q) : gw_E V 164 (954, [(0, .ref 0), (1, .ref 3), (2, .ref 126), (3, .int (Int32.ofNat i))], [], gS n I J, cu, su) Q := by
  refine gs_aload_n (pc := 954) (gd gk_164_14 36 rfl) rfl ?_
  refine gs_aload_n (pc := 955) (gd gk_164_14 37 rfl) rfl ?_
  refine gs_iload_n (pc := 956) (gd gk_164_14 38 rfl) rfl ?_
  refine gs_iconst (pc := 957) (gd gk_164_14 39 rfl) (1) rfl ?_
  refine gs_iadd (pc := 958) (gd gk_164_15 0 rfl) ?_
  refine gs_ialoadK (i + 1) n (pc := 959) (gd gk_164_15 1 rfl) (Or.inr ⟨rfl, by decide⟩) rfl (by omega) (by rw [Int32.ofNat_add]; rfl) (by omega) ?_
  refine gl_call (as := [.int (I 0 (i + 1))]) (pc := 960) (gd gk_164_15 2 rfl) (by decide) rfl (by decide) rfl rfl (Nat.le_of_ble_eq_true rfl) (by decide +kernel) ⟨rfl, rfl⟩ hc hu (Nat.le_of_ble_eq_true rfl) (p_again (V := V) (n := n) (I 0 (i + 1)) h) (fun r_0 w_0 q_0 => ?_)
  obtain ⟨y, I1, J1, rfl, rfl, e0, hE⟩ := q_0
  refine gs_aload_n (pc := 963) (gd gk_164_15 3 rfl) rfl ?_
  refine gs_aload_n (pc := 964) (gd gk_164_15 4 rfl) rfl ?_
  refine gs_iload_n (pc := 965) (gd gk_164_15 5 rfl) rfl ?_
  refine gs_iconst (pc := 966) (gd gk_164_15 6 rfl) (1) rfl ?_
  refine gs_iadd (pc := 967) (gd gk_164_15 7 rfl) ?_
  refine gs_ialoadK (i + 1) n (pc := 968) (gd gk_164_15 8 rfl) (Or.inr ⟨rfl, by decide⟩) rfl (by omega) (by rw [Int32.ofNat_add]; rfl) (by omega) ?_
  refine gs_as (I 0 (i + 1)) (by rw [e0]) ?_
  refine gl_call (as := [.int (I 0 (i + 1))]) (pc := 969) (gd gk_164_15 9 rfl) (by decide) rfl (by decide) rfl rfl (Nat.le_of_ble_eq_true rfl) (by decide +kernel) ⟨rfl, rfl⟩ hc hu (Nat.le_of_ble_eq_true rfl) (hE) (fun r_1 w_1 q_1 => ?_)
  obtain ⟨rfl, I2, J2, rfl, e2, hv⟩ := q_1
  exact gs_icmp_eq (pc := 972) (gd gk_164_15 10 rfl) (fun _ => next I2 J2 e2 hv) (fun q => absurd rfl q)
theorem l_count (hn : n ≤ 320) (hi : i + 5 ≤ n) (hc : cu ≤ gm_c 164) (hu : su ≤ gm_s 164) (h : gv_Inv I J) (next : ∀ I2 J2, I2 0 = I 0 → gv_Inv I2 J2 → gw_E V 164 (1000, [(0, .ref 0), (1, .ref 3), (2, .ref 126), (3, .int (Int32.ofNat i))], [], gS n I2 J2, cu, su) Q) : gw_E V 164 (977, [(0, .ref 0), (1, .ref 3), (2, .ref 126), (3, .int (Int32.ofNat i))], [], gS n I J, cu, su) Q := by
  refine gs_aload_n (pc := 977) (gd gk_164_15 13 rfl) rfl ?_
  refine gs_aload_n (pc := 978) (gd gk_164_15 14 rfl) rfl ?_
  refine gs_iload_n (pc := 979) (gd gk_164_15 15 rfl) rfl ?_
  refine gs_iconst (pc := 980) (gd gk_164_15 16 rfl) (1) rfl ?_
  refine gs_iadd (pc := 981) (gd gk_164_15 17 rfl) ?_
  refine gs_ialoadK (i + 1) n (pc := 982) (gd gk_164_15 18 rfl) (Or.inr ⟨rfl, by decide⟩) rfl (by omega) (by rw [Int32.ofNat_add]; rfl) (by omega) ?_
  refine gl_call (as := [.int (I 0 (i + 1))]) (pc := 983) (gd gk_164_15 19 rfl) (by decide) rfl (by decide) rfl rfl (Nat.le_of_ble_eq_true rfl) (by decide +kernel) ⟨rfl, rfl⟩ hc hu (Nat.le_of_ble_eq_true rfl) (p_count (V := V) (n := n) (I 0 (i + 1)) h) (fun r_0 w_0 q_0 => ?_)
  obtain ⟨y, I1, J1, rfl, rfl, e0, hE⟩ := q_0
  refine gs_aload_n (pc := 986) (gd gk_164_15 20 rfl) rfl ?_
  refine gs_aload_n (pc := 987) (gd gk_164_15 21 rfl) rfl ?_
  refine gs_iload_n (pc := 988) (gd gk_164_15 22 rfl) rfl ?_
  refine gs_iconst (pc := 989) (gd gk_164_15 23 rfl) (1) rfl ?_
  refine gs_iadd (pc := 990) (gd gk_164_15 24 rfl) ?_
  refine gs_ialoadK (i + 1) n (pc := 991) (gd gk_164_15 25 rfl) (Or.inr ⟨rfl, by decide⟩) rfl (by omega) (by rw [Int32.ofNat_add]; rfl) (by omega) ?_
  refine gs_as (I 0 (i + 1)) (by rw [e0]) ?_
  refine gl_call (as := [.int (I 0 (i + 1))]) (pc := 992) (gd gk_164_15 26 rfl) (by decide) rfl (by decide) rfl rfl (Nat.le_of_ble_eq_true rfl) (by decide +kernel) ⟨rfl, rfl⟩ hc hu (Nat.le_of_ble_eq_true rfl) (hE) (fun r_1 w_1 q_1 => ?_)
  obtain ⟨rfl, I2, J2, rfl, e2, hv⟩ := q_1
  exact gs_icmp_eq (pc := 995) (gd gk_164_15 27 rfl) (fun _ => next I2 J2 e2 hv) (fun q => absurd rfl q)
end
