/-! looking ahead, on both sides -/
def cp44 (z y : Nat → Int32) : Nat → Int32 := fun j => if j < 44 then z j else y j
theorem cp44_lt {z y : Nat → Int32} {j : Nat} (h : j < 44) : cp44 z y j = z j := if_pos h
theorem IV_congr {y y' : Nat → Int32} {C N : Nat} {o : Option Nat} (h : ∀ j, j < 44 → y' j = y j) (hv : IV y C N o) : IV y' C N o := by
  obtain ⟨⟨v1, v2, v3⟩, ⟨v4, v5, v6⟩, v7, v8, v9, v10, vb⟩ := hv
  refine ⟨⟨by rw [h _ (by decide)]; exact v1, v2, v3⟩, ⟨by rw [h _ (by decide)]; exact v4, v5, v6⟩, by rw [h _ (by decide)]; exact v7, by rw [h _ (by decide)]; exact v8, by rw [h _ (by decide)]; exact v9, by rw [h _ (by decide)]; exact v10, fun b hb => ?_⟩
  rw [h (14 + b) (by omega), h (32 + b) (by omega), h (20 + b) (by omega), h (26 + b) (by omega)]
  exact vb b hb
theorem IR_congr {x : Nat → Nat → Int32} {y y' : Nat → Int32} {C N : Nat} (hC : C ≤ 6) (hN : N ≤ 6) (h : ∀ j, j < 44 → y' j = y j) (hr : IR x y C N) : IR x y' C N := by
  obtain ⟨⟨h0, h1, h2, h3, h4, h5, h6, h7⟩, hc, hb⟩ := hr
  refine ⟨⟨by rw [h _ (by decide)]; exact h0, by rw [h _ (by decide)]; exact h1, by rw [h _ (by decide)]; exact h2, by rw [h _ (by decide)]; exact h3, by rw [h _ (by decide)]; exact h4, by rw [h _ (by decide)]; exact h5, by rw [h _ (by decide)]; exact h6, by rw [h _ (by decide)]; exact h7⟩, fun c hcC => by rw [h _ (by omega)]; exact hc c hcC, fun b hbN => ?_⟩
  rw [h (14 + b) (by omega), h (32 + b) (by omega), h (20 + b) (by omega), h (26 + b) (by omega), h (38 + b) (by omega)]
  exact hb b hbN
theorem GX.congr {x : Nat → Nat → Int32} {y y' : Nat → Int32} (h : ∀ j, j < 44 → y' j = y j) (g : GX x y) : GX x y' := by
  obtain ⟨C, N, o, hv, hr⟩ := g
  exact ⟨C, N, o, IV_congr h hv, IR_congr hv.1.2.2 hv.2.1.2.2 h hr⟩
theorem GX.bec {x w : Nat → Nat → Int32} {y : Nat → Int32} (g : GX x y) : GX (becI w x) y := by
  obtain ⟨C, N, o, hv, ⟨h0, h1, h2, h3, h4, h5, h6, h7⟩, hc, hb⟩ := g
  have hC := hv.1.2.2
  have hN := hv.2.1.2.2
  have e0 : ∀ j, j < 8 → becI w x 0 j = x 0 j := fun j hj => by unfold becI; rw [if_pos rfl, if_pos hj]
  have er : ∀ r j, r ≠ 0 → r < 7 → j < 6 → becI w x r j = x r j := fun r j h1 h2 h3 => by unfold becI; rw [if_neg h1, if_pos ⟨h2, h3⟩]
  refine ⟨C, N, o, hv, ⟨by rw [e0 _ (by decide)]; exact h0, by rw [e0 _ (by decide)]; exact h1, by rw [e0 _ (by decide)]; exact h2, by rw [e0 _ (by decide)]; exact h3, by rw [e0 _ (by decide)]; exact h4, by rw [e0 _ (by decide)]; exact h5, by rw [e0 _ (by decide)]; exact h6, by rw [e0 _ (by decide)]; exact h7⟩, fun c hcC => by rw [er 1 c (by decide) (by decide) (by omega)]; exact hc c hcC, fun b hbN => ?_⟩
  rw [er 2 b (by decide) (by decide) (by omega), er 3 b (by decide) (by decide) (by omega), er 4 b (by decide) (by decide) (by omega), er 5 b (by decide) (by decide) (by omega), er 6 b (by decide) (by decide) (by omega)]
  exact hb b hbN
section LK
variable {d : Nat} {m : Nat → Nat → Int32} {y z : Nat → Int32}
theorem rd226 {j : Nat} : wrA (wrA m 226 z) 221 y 226 j = z j := by
  rw [wrA_ne (by decide), wrA_at]
theorem up226 {j : Nat} {v : Int32} : jm_up (wrA (wrA m 226 z) 221 y) 226 j v = wrA (wrA m 226 (upd z j v)) 221 y := by
  funext a k
  unfold jm_up wrA upd
  by_cases q : a = 226
  · subst q
    by_cases e : k = j <;> simp [e]
  · simp [q]
def cpk (z y : Nat → Int32) (c : Nat) : Nat → Int32 := fun j => if j < c then z j else y j
theorem cpk_s {c : Nat} : upd (cpk z y c) c (z c) = cpk z y (c + 1) := by
  funext j
  unfold upd cpk
  by_cases q : j = c
  · subst q; simp
  · rw [if_neg q]
    by_cases e : j < c
    · rw [if_pos e, if_pos (by omega)]
    · rw [if_neg e, if_neg (by omega)]
theorem cpk_0 : cpk z y 0 = y := by
  funext j
  exact if_neg (by omega)
theorem cpk_44 : cpk z y 44 = cp44 z y := rfl
theorem lp_X7_putAside : ∀ (k c : Nat), c + k = 44 → jm_R d md_X7_putAside 2 [.ref 217, .int (nI c)] [] (jm_mk (wrA (wrA m 226 (cpk y z c)) 221 y)) = some (none, jm_mk (wrA (wrA m 226 (cp44 y z)) 221 y)) := by
  intro k
  induction k with
  | zero =>
    intro c h
    have e : c = 44 := by omega
    subst e
    rw [e_X7_putAside_2]
    simp only [e_X7_putAside_0, e_X7_putAside_1, e_X7_putAside_3, e_X7_putAside_5, e_X7_putAside_8, e_X7_putAside_9, e_X7_putAside_12, e_X7_putAside_13, e_X7_putAside_14, e_X7_putAside_17, e_X7_putAside_18, e_X7_putAside_19, e_X7_putAside_20, e_X7_putAside_23, e_X7_putAside_26, nI_le (Nat.le_refl 44) (by decide), if_true, cpk_44]
  | succ k ih =>
    intro c h
    have h1 : ¬ nI 44 ≤ nI c := nI_ge (by omega) (by omega)
    have h44 : c < 44 := by omega
    rw [e_X7_putAside_2]
    simp only [e_X7_putAside_0, e_X7_putAside_1, e_X7_putAside_3, e_X7_putAside_5, e_X7_putAside_8, e_X7_putAside_9, e_X7_putAside_12, e_X7_putAside_13, e_X7_putAside_14, e_X7_putAside_17, e_X7_putAside_18, e_X7_putAside_19, e_X7_putAside_20, e_X7_putAside_23, e_X7_putAside_26, h1, if_false, h44, wrA_at, up226, cpk_s, nI_add]
    exact ih (c + 1) (by omega)
theorem k_X7_putAside : jm_K d md_X7_putAside [.ref 217] (jm_mk (wrA (wrA m 226 z) 221 y)) = some (none, jm_mk (wrA (wrA m 226 (cp44 y z)) 221 y)) := by
  show jm_R d md_X7_putAside 0 [.ref 217, .null] [] _ = _
  simp only [e_X7_putAside_0, e_X7_putAside_1, e_X7_putAside_3, e_X7_putAside_5, e_X7_putAside_8, e_X7_putAside_9, e_X7_putAside_12, e_X7_putAside_13, e_X7_putAside_14, e_X7_putAside_17, e_X7_putAside_18, e_X7_putAside_19, e_X7_putAside_20, e_X7_putAside_23, e_X7_putAside_26]
  have := lp_X7_putAside (d := d) (m := m) (y := y) (z := z) 44 0 (by omega)
  rw [cpk_0] at this
  exact this
theorem lp_X7_takeBack : ∀ (k c : Nat), c + k = 44 → jm_R d md_X7_takeBack 2 [.ref 217, .int (nI c)] [] (jm_mk (wrA (wrA m 226 z) 221 (cpk z y c))) = some (none, jm_mk (wrA (wrA m 226 z) 221 (cp44 z y))) := by
  intro k
  induction k with
  | zero =>
    intro c h
    have e : c = 44 := by omega
    subst e
    rw [e_X7_takeBack_2]
    simp only [e_X7_takeBack_0, e_X7_takeBack_1, e_X7_takeBack_3, e_X7_takeBack_5, e_X7_takeBack_8, e_X7_takeBack_9, e_X7_takeBack_12, e_X7_takeBack_13, e_X7_takeBack_14, e_X7_takeBack_17, e_X7_takeBack_18, e_X7_takeBack_19, e_X7_takeBack_20, e_X7_takeBack_23, e_X7_takeBack_26, nI_le (Nat.le_refl 44) (by decide), if_true, cpk_44]
  | succ k ih =>
    intro c h
    have h1 : ¬ nI 44 ≤ nI c := nI_ge (by omega) (by omega)
    have h44 : c < 44 := by omega
    rw [e_X7_takeBack_2]
    simp only [e_X7_takeBack_0, e_X7_takeBack_1, e_X7_takeBack_3, e_X7_takeBack_5, e_X7_takeBack_8, e_X7_takeBack_9, e_X7_takeBack_12, e_X7_takeBack_13, e_X7_takeBack_14, e_X7_takeBack_17, e_X7_takeBack_18, e_X7_takeBack_19, e_X7_takeBack_20, e_X7_takeBack_23, e_X7_takeBack_26, h1, if_false, h44, rd226, wrA_up, cpk_s, nI_add]
    exact ih (c + 1) (by omega)
theorem k_X7_takeBack : jm_K d md_X7_takeBack [.ref 217] (jm_mk (wrA (wrA m 226 z) 221 y)) = some (none, jm_mk (wrA (wrA m 226 z) 221 (cp44 z y))) := by
  show jm_R d md_X7_takeBack 0 [.ref 217, .null] [] _ = _
  simp only [e_X7_takeBack_0, e_X7_takeBack_1, e_X7_takeBack_3, e_X7_takeBack_5, e_X7_takeBack_8, e_X7_takeBack_9, e_X7_takeBack_12, e_X7_takeBack_13, e_X7_takeBack_14, e_X7_takeBack_17, e_X7_takeBack_18, e_X7_takeBack_19, e_X7_takeBack_20, e_X7_takeBack_23, e_X7_takeBack_26]
  have := lp_X7_takeBack (d := d) (m := m) (y := y) (z := z) 44 0 (by omega)
  rw [cpk_0] at this
  exact this
theorem k_X7_ownerBy {n : Nat} (hn : n < 1000) (g : GY y) : jm_K (d + 5) md_X7_ownerBy [.ref 217, .int (nI n)] (jm_mk (wrA (wrA m 226 z) 221 y)) = some (some (.int (ohN y n 7)), jm_mk (wrA (wrA m 226 z) 221 (cp44 z (ohN y n)))) := by
  show jm_R (d + 5) md_X7_ownerBy 0 [.ref 217, .int (nI n), .null] [] _ = _
  simp only [e_X7_ownerBy_0, e_X7_ownerBy_1, e_X7_ownerBy_2, e_X7_ownerBy_5, e_X7_ownerBy_6, e_X7_ownerBy_9, e_X7_ownerBy_11, e_X7_ownerBy_12, e_X7_ownerBy_13, e_X7_ownerBy_14, e_X7_ownerBy_17, e_X7_ownerBy_18, k_X7_goOn hn g, jm_bd_0, show (7 : Nat) < 44 by decide, wrA_at, k_X7_takeBack]
theorem subm1 {N : Nat} (h : N ≤ 6) {b : Int32} : (nI N - nI 1 < b) = (nI N ≤ b) := by
  apply propext
  rw [Int32.lt_iff_toInt_lt, Int32.le_iff_toInt_le, nI_toInt (by omega), pk_sub_toInt (by omega) (by omega)]
  omega
theorem k_X7_isBoat {N : Nat} {b : Int32} (hN : m 221 4 = nI N) (hN6 : N ≤ 6) : jm_K (d + 1) md_X7_isBoat [.ref 217, .int b] (jm_mk m) = some (some (.int (if ¬ b < nI 0 ∧ ¬ nI N ≤ b then nI 1 else nI 0)), jm_mk m) := by
  show jm_R (d + 1) md_X7_isBoat 0 [.ref 217, .int b] [] _ = _
  simp only [e_X7_isBoat_0, e_X7_isBoat_1, e_X7_isBoat_2, e_X7_isBoat_3, e_X7_isBoat_4, e_X7_isBoat_7, e_X7_isBoat_8, e_X7_isBoat_9, e_X7_isBoat_10, e_X7_isBoat_11, e_X7_isBoat_12, e_X7_isBoat_15, show (4 : Nat) < 44 by decide, hN, lN_64 (show 0 < 2 ^ 31 by decide), k_X7_inI, jm_bd_v, b01, subm1 hN6]
theorem k_X7_isCell {N : Nat} {b : Int32} (hN : m 221 3 = nI N) (hN6 : N ≤ 6) : jm_K (d + 1) md_X7_isCell [.ref 217, .int b] (jm_mk m) = some (some (.int (if ¬ b < nI 0 ∧ ¬ nI N ≤ b then nI 1 else nI 0)), jm_mk m) := by
  show jm_R (d + 1) md_X7_isCell 0 [.ref 217, .int b] [] _ = _
  simp only [e_X7_isCell_0, e_X7_isCell_1, e_X7_isCell_2, e_X7_isCell_3, e_X7_isCell_4, e_X7_isCell_7, e_X7_isCell_8, e_X7_isCell_9, e_X7_isCell_10, e_X7_isCell_11, e_X7_isCell_12, e_X7_isCell_15, show (3 : Nat) < 44 by decide, hN, lN_64 (show 0 < 2 ^ 31 by decide), k_X7_inI, jm_bd_v, b01, subm1 hN6]
theorem k_X4_behind {n : Nat} (hn : n < 1000) (g : GX (vwI m 200) y) : jm_K (d + 4) md_X4_behind [.ref 207, .int (nI n)] (jm_mk m) = some (some (.ref 208), jm_mk (wrI m 208 (pasN (becI (vwI m 208) (vwI m 200)) n))) := by
  show jm_R (d + 4) md_X4_behind 0 [.ref 207, .int (nI n)] [] _ = _
  have hb := k_X2_become (d := d + 2) (a := 208) (b := 200) (m := m) (by decide) (by decide) (by decide)
  have hp := k_X2_passAll (d := d) (a := 208) (m := m) (x := becI (vwI m 208) (vwI m 200)) (by decide) hn g.bec
  simp only [e_X4_behind_0, e_X4_behind_1, e_X4_behind_4, e_X4_behind_5, e_X4_behind_8, e_X4_behind_11, e_X4_behind_12, e_X4_behind_15, e_X4_behind_16, e_X4_behind_19, e_X4_behind_20, e_X4_behind_23, hb, hp, jm_bd_0]
end LK
