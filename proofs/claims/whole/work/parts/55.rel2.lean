/-! what a change leaves as it was -/
section RC
variable {m m' : Nat → Nat → Int32}
theorem R1.c (h : ∀ a, (3 ≤ a ∧ a ≤ 12) ∨ a = 218 ∨ a = 219 ∨ a = 220 → m' a = m a) (r : R1 m) : R1 m' := by
  intro q hq
  rw [h 11 (by decide), h 219 (by decide), h 218 (by decide), h 12 (by decide), h 220 (by decide), h (3 + q) (by omega)]
  exact r q hq
theorem R2.c (h1 : m' 0 7 = m 0 7) (h2 : m' 217 3 = m 217 3) (r : R2 m) : R2 m' := by
  unfold R2
  rw [h1, h2]
  exact r
theorem R3.c (h1 : m' 13 1 = m 13 1) (h2 : m' 13 2 = m 13 2) (h3 : m' 217 8 = m 217 8) (h4 : m' 217 9 = m 217 9) (h5 : m' 14 = m 14) (h6 : m' 223 = m 223) (r : R3 m) : R3 m' := by
  unfold R3
  rw [h1, h2, h3, h4, h5, h6]
  exact r
theorem R4.c (h1 : m' 217 4 = m 217 4) (h2 : ∀ a, 200 ≤ a → a < 207 → m' a = m a) (h3 : ∀ j, j < 44 → m' 221 j = m 221 j) (h4 : m' 217 17 = m 217 17) (r : R4 m) : R4 m' := by
  unfold R4
  rw [h1, h2 200 (by decide) (by decide), h3 3 (by decide), h3 4 (by decide), h3 5 (by decide), h3 6 (by decide), h4]
  rcases r with q | ⟨q1, q2⟩
  · exact Or.inl q
  · refine Or.inr ⟨q1, (q2.congr h3).congrx (fun r hr => ?_)⟩
    show m' (200 + r) = m (200 + r)
    exact h2 _ (by omega) (by omega)
theorem R5.c (h1 : m' 15 1 = m 15 1) (h2 : m' 15 2 = m 15 2) (h3 : m' 217 17 = m 217 17) (h4 : ∀ a, 17 ≤ a → a < 185 → m' a = m a) (h5 : m' 225 = m 225) (r : R5 m) : R5 m' := by
  obtain ⟨e, k, e1, e2, e3, e4, e5, e6⟩ := r
  refine ⟨e, k, e1, e2, by rw [h1]; exact e3, by rw [h2]; exact e4, by rw [h3]; exact e5, fun i hi => ?_⟩
  rw [h5]
  refine (e6 i hi).congrx (fun r hr => ?_)
  show m' (kpA e k i + r) = m (kpA e k i + r)
  exact h4 _ (by unfold kpA; omega) (by unfold kpA; omega)
theorem R6.c (h1 : ∀ a, 186 ≤ a → a < 200 → m' a = m a) (h2 : m' 227 = m 227) (h3 : m' 228 = m 228) (h4 : m' 217 4 = m 217 4) (r : R6 m) : R6 m' := by
  intro k hk
  rw [h2, h3, h4, h1 (186 + 7 * k) (by omega) (by omega)]
  rcases r k hk with q | ⟨q1, q3, q2⟩
  · exact Or.inl q
  · refine Or.inr ⟨q1, q3, q2.congrx (fun r hr => ?_)⟩
    show m' (186 + 7 * k + r) = m (186 + 7 * k + r)
    exact h1 _ (by omega) (by omega)
theorem R7.c (h1 : m' 215 2 = m 215 2) (h2 : m' 217 22 = m 217 22) (h3 : m' 216 = m 216) (h4 : m' 229 = m 229) (r : R7 m) : R7 m' := by
  unfold R7
  rw [h1, h2, h3, h4]
  exact r
theorem jupr {a j a' : Nat} {v : Int32} (h : a' ≠ a) : jm_up m a j v a' = m a' := by
  funext j'
  exact jup_ne (fun q => h q.1)
end RC
/-- the finding is written on both sides -/
theorem Rel.st {m : Nat → Nat → Int32} (hR : Rel m) (v : Int32) : Rel (jm_up (jm_up m 0 7 v) 217 3 v) := by
  obtain ⟨h1, h2, h3, h4, h5, h6, h7⟩ := hR
  have r : ∀ a, a ≠ 0 → a ≠ 217 → jm_up (jm_up m 0 7 v) 217 3 v a = m a := fun a ha hb => by rw [jupr hb, jupr ha]
  have s : ∀ j, j ≠ 3 → jm_up (jm_up m 0 7 v) 217 3 v 217 j = m 217 j := fun j hj => by rw [jup_ne (fun q => hj q.2), jupr (by decide)]
  refine ⟨h1.c (fun a ha => r a (by omega) (by omega)), ?_, h3.c (by rw [r 13 (by decide) (by decide)]) (by rw [r 13 (by decide) (by decide)]) (s 8 (by decide)) (s 9 (by decide)) (r 14 (by decide) (by decide)) (r 223 (by decide) (by decide)), h4.c (s 4 (by decide)) (fun a ha hb => r a (by omega) (by omega)) (fun j _ => by rw [r 221 (by decide) (by decide)]) (s 17 (by decide)), h5.c (by rw [r 15 (by decide) (by decide)]) (by rw [r 15 (by decide) (by decide)]) (s 17 (by decide)) (fun a ha hb => r a (by omega) (by omega)) (r 225 (by decide) (by decide)), h6.c (fun a ha hb => r a (by omega) (by omega)) (r 227 (by decide) (by decide)) (r 228 (by decide) (by decide)) (s 4 (by decide)), h7.c (by rw [r 215 (by decide) (by decide)]) (s 22 (by decide)) (r 216 (by decide) (by decide)) (r 229 (by decide) (by decide))⟩
  unfold R2
  rw [jup_ne (by decide), jup_eq, jup_eq]
theorem jup_comm {m : Nat → Nat → Int32} {a j b k : Nat} {u v : Int32} (h : a ≠ b) : jm_up (jm_up m a j u) b k v = jm_up (jm_up m b k v) a j u := by
  funext a' j'
  unfold jm_up
  by_cases q : a' = a
  · subst q
    by_cases z : j' = j
    · subst z; simp [h]
    · simp [h, z]
  · simp [q]
/-- nothing but the finding -/
theorem Api.fnd {mc mm : jm_Md} {As : List Value} {m : Nat → Nat → Int32} (hR : Rel m) {r : Value} (v : Int32) (h1 : jm_K 12 mc (.ref 0 :: As) (jm_mk m) = some (some r, jm_mk (jm_up m 0 7 v))) (h2 : jm_K 12 mm (.ref 217 :: As) (jm_mk (jm_up m 0 7 v)) = some (some r, jm_mk (jm_up (jm_up m 0 7 v) 217 3 v))) : ∃ (r : Value) (m1 m2 : Nat → Nat → Int32), jm_K 12 mc (.ref 0 :: As) (jm_mk m) = some (some r, jm_mk m1) ∧ jm_K 12 mm (.ref 217 :: As) (jm_mk m1) = some (some r, jm_mk m2) ∧ Rel m2 := ⟨r, _, _, h1, h2, hR.st v⟩
theorem Api.bad {mc mm : jm_Md} {As : List Value} {m : Nat → Nat → Int32} (hR : Rel m) {r : Value} (h1 : jm_K 12 mc (.ref 0 :: As) (jm_mk m) = some (some r, jm_mk m)) (h2 : jm_K 12 mm (.ref 217 :: As) (jm_mk m) = some (some r, jm_mk m)) : ∃ (r : Value) (m1 m2 : Nat → Nat → Int32), jm_K 12 mc (.ref 0 :: As) (jm_mk m) = some (some r, jm_mk m1) ∧ jm_K 12 mm (.ref 217 :: As) (jm_mk m1) = some (some r, jm_mk m2) ∧ Rel m2 := ⟨r, _, _, h1, h2, hR⟩
theorem isRow7 {d : Nat} {v : Int32} {m : Nat → Nat → Int32} : jm_K (d + 1) md_X7_isRow [.int v] (jm_mk m) = some (some (.int (if ¬ v < nI 0 ∧ ¬ nI 7 < v then nI 1 else nI 0)), jm_mk m) := k_X7_isRow (M := jm_mk m)
theorem k_X3_isRow {d : Nat} {v : Int32} {m : Nat → Nat → Int32} : jm_K (d + 1) md_X3_isRow [.int v] (jm_mk m) = some (some (.int (if ¬ v < nI 0 ∧ ¬ nI 7 < v then nI 1 else nI 0)), jm_mk m) := by
  show jm_R (d + 1) md_X3_isRow 0 [.int v] [] _ = _
  simp only [e_X3_isRow_0, e_X3_isRow_1, e_X3_isRow_2, e_X3_isRow_4, e_X3_isRow_7, k_X6_within, jm_bd_v, b01]
set_option maxRecDepth 100000 in
theorem kd3' : ∀ r, r < 8 → jm_kd (3 + r) = 8 ∧ jm_ln (3 + r) = 40 := by decide +kernel
theorem kd3 {r : Nat} (h : r < 8) : jm_kd (3 + r) = 8 := (kd3' r h).1
theorem ln3 {r : Nat} (h : r < 8) : jm_ln (3 + r) = 40 := (kd3' r h).2
theorem lan {m : Nat → Nat → Int32} (h : R1 m) {r : Nat} (hr : r < 8) : (m 11 r = -1 ∧ m 219 r = -1) ∨ (¬ m 11 r = -1 ∧ ¬ m 219 r < nI 0) := by
  rcases h r hr with q | ⟨k, n, h1, h2, h3, h4, h5, h6, h7⟩
  · exact Or.inl q
  · exact Or.inr ⟨by rw [h3]; exact nI_m1 (by omega), by rw [h6]; exact nI_nlt0 (by omega)⟩
/-! drop, set -/
theorem rowOf {v : Int32} (h : ¬ v < nI 0 ∧ ¬ nI 7 < v) : ∃ r, r < 8 ∧ v = nI r := by
  obtain ⟨j, -, hj, e⟩ := rg_of h (by omega) (by omega)
  exact ⟨j, by omega, e⟩
theorem k_X3_lose {d r : Nat} {m : Nat → Nat → Int32} (hr : r < 8) : jm_K d md_X3_lose [.ref 1, .int (nI r)] (jm_mk m) = some (some (.int (m 12 r)), jm_mk (jm_up m 11 r (-1))) := by
  show jm_R d md_X3_lose 0 [.ref 1, .int (nI r)] [] _ = _
  simp only [e_X3_lose_0, e_X3_lose_1, e_X3_lose_4, e_X3_lose_5, e_X3_lose_6, e_X3_lose_7, e_X3_lose_8, e_X3_lose_11, e_X3_lose_12, e_X3_lose_13, hr]
  rw [jupr (by decide)]
theorem api_drop (r : Int32) : Api md_X6_drop md_X7_drop [.int r] := by
  intro m hR
  have hR1 := hR.1
  by_cases hr : ¬ r < nI 0 ∧ ¬ nI 7 < r
  · obtain ⟨r, h8, rfl⟩ := rowOf hr
    rcases hR1 r h8 with ⟨q1, q2⟩ | ⟨k, n, h1, h2, h3, h4, h5, h6, h7⟩
    · have q3 : ¬ nI 0 ≤ (-1 : Int32) := by decide
      refine Api.fnd hR (nI 1) (r := .int (-1000010 - nI 1)) ?_ ?_
      · show jm_R 12 md_X6_drop 0 [.ref 0, .int (nI r)] [] _ = _
        simp only [e_X6_drop_0, e_X6_drop_1, e_X6_drop_4, e_X6_drop_7, e_X6_drop_9, e_X6_drop_10, e_X6_drop_11, e_X6_drop_14, e_X6_drop_15, e_X6_drop_18, e_X6_drop_21, e_X6_drop_22, e_X6_drop_23, e_X6_drop_26, e_X6_drop_27, e_X6_drop_28, e_X6_drop_29, e_X6_drop_32, e_X6_drop_33, e_X6_drop_36, e_X6_drop_39, k_X3_isRow, k_X3_isMissing h8, jm_bd_v, jm_bd_0, bv1, if_false, if_true, not_false_eq_true, not_true_eq_false, if_pos hr, q1, k_X6_finding]
      · show jm_R 12 md_X7_drop 0 [.ref 217, .int (nI r), .null] [] _ = _
        simp only [e_X7_drop_0, e_X7_drop_1, e_X7_drop_4, e_X7_drop_7, e_X7_drop_9, e_X7_drop_10, e_X7_drop_11, e_X7_drop_14, e_X7_drop_15, e_X7_drop_16, e_X7_drop_19, e_X7_drop_20, e_X7_drop_21, e_X7_drop_24, e_X7_drop_25, e_X7_drop_26, e_X7_drop_29, e_X7_drop_30, e_X7_drop_31, e_X7_drop_32, e_X7_drop_33, e_X7_drop_36, e_X7_drop_37, e_X7_drop_38, e_X7_drop_39, e_X7_drop_40, e_X7_drop_41, e_X7_drop_44, isRow7, jm_bd_v, jm_bd_0, bv1, if_false, if_true, not_false_eq_true, not_true_eq_false, if_pos hr, h8, jupr (show (219 : Nat) ≠ 0 by decide), q2, q3, k_X7_find]
    · have e1 : ¬ m 11 r = -1 := by rw [h3]; exact nI_m1 (by omega)
      have e2 : nI 0 ≤ m 219 r := by rw [h6]; exact nI_le (Nat.zero_le _) (by omega)
      refine ⟨.int (m 12 r), jm_up (jm_up m 11 r (-1)) 0 7 (nI 0), jm_up (jm_up (jm_up (jm_up m 11 r (-1)) 0 7 (nI 0)) 219 r (-1)) 217 3 (nI 0), ?_, ?_, ?_⟩
      · show jm_R 12 md_X6_drop 0 [.ref 0, .int (nI r)] [] _ = _
        simp only [e_X6_drop_0, e_X6_drop_1, e_X6_drop_4, e_X6_drop_7, e_X6_drop_9, e_X6_drop_10, e_X6_drop_11, e_X6_drop_14, e_X6_drop_15, e_X6_drop_18, e_X6_drop_21, e_X6_drop_22, e_X6_drop_23, e_X6_drop_26, e_X6_drop_27, e_X6_drop_28, e_X6_drop_29, e_X6_drop_32, e_X6_drop_33, e_X6_drop_36, e_X6_drop_39, k_X3_isRow, k_X3_isMissing h8, jm_bd_v, jm_bd_0, bv1, if_false, if_true, not_false_eq_true, not_true_eq_false, if_pos hr, if_neg e1, k_X3_lose h8, k_X6_fine]
      · show jm_R 12 md_X7_drop 0 [.ref 217, .int (nI r), .null] [] _ = _
        simp only [e_X7_drop_0, e_X7_drop_1, e_X7_drop_4, e_X7_drop_7, e_X7_drop_9, e_X7_drop_10, e_X7_drop_11, e_X7_drop_14, e_X7_drop_15, e_X7_drop_16, e_X7_drop_19, e_X7_drop_20, e_X7_drop_21, e_X7_drop_24, e_X7_drop_25, e_X7_drop_26, e_X7_drop_29, e_X7_drop_30, e_X7_drop_31, e_X7_drop_32, e_X7_drop_33, e_X7_drop_36, e_X7_drop_37, e_X7_drop_38, e_X7_drop_39, e_X7_drop_40, e_X7_drop_41, e_X7_drop_44, isRow7, jm_bd_v, jm_bd_0, bv1, if_false, if_true, not_false_eq_true, not_true_eq_false, if_pos hr, h8, jupr (show (219 : Nat) ≠ 0 by decide), jupr (show (219 : Nat) ≠ 11 by decide), e2, k_X7_well]
        rw [h5, h6]
      · rw [jup_comm (a := 0) (b := 219) (by decide)]
        refine Rel.st ?_ (nI 0)
        obtain ⟨g1, g2, g3, g4, g5, g6, g7⟩ := hR
        have ro : ∀ a, a ≠ 11 → a ≠ 219 → jm_up (jm_up m 11 r (-1)) 219 r (-1) a = m a := fun a ha hb => by rw [jupr hb, jupr ha]
        refine ⟨fun r' hr' => ?_, g2.c (by rw [ro 0 (by decide) (by decide)]) (by rw [ro 217 (by decide) (by decide)]), g3.c (by rw [ro 13 (by decide) (by decide)]) (by rw [ro 13 (by decide) (by decide)]) (by rw [ro 217 (by decide) (by decide)]) (by rw [ro 217 (by decide) (by decide)]) (ro 14 (by decide) (by decide)) (ro 223 (by decide) (by decide)), g4.c (by rw [ro 217 (by decide) (by decide)]) (fun a ha hb => ro a (by omega) (by omega)) (fun j _ => by rw [ro 221 (by decide) (by decide)]) (by rw [ro 217 (by decide) (by decide)]), g5.c (by rw [ro 15 (by decide) (by decide)]) (by rw [ro 15 (by decide) (by decide)]) (by rw [ro 217 (by decide) (by decide)]) (fun a ha hb => ro a (by omega) (by omega)) (ro 225 (by decide) (by decide)), g6.c (fun a ha hb => ro a (by omega) (by omega)) (ro 227 (by decide) (by decide)) (ro 228 (by decide) (by decide)) (by rw [ro 217 (by decide) (by decide)]), g7.c (by rw [ro 215 (by decide) (by decide)]) (by rw [ro 217 (by decide) (by decide)]) (ro 216 (by decide) (by decide)) (ro 229 (by decide) (by decide))⟩
        rw [ro 218 (by decide) (by decide), ro 12 (by decide) (by decide), ro 220 (by decide) (by decide), ro (3 + r') (by omega) (by omega), jupr (show (11 : Nat) ≠ 219 by decide)]
        by_cases z : r' = r
        · subst z
          rw [jup_eq, jup_eq]
          exact Or.inl ⟨rfl, rfl⟩
        · rw [jup_ne (fun q => z q.2), jup_ne (fun q => z q.2), jupr (by decide)]
          exact g1 r' hr'
  · refine Api.bad hR (r := .int (-1000001)) ?_ ?_
    · show jm_R 12 md_X6_drop 0 [.ref 0, .int r] [] _ = _
      simp only [e_X6_drop_0, e_X6_drop_1, e_X6_drop_4, e_X6_drop_7, e_X6_drop_9, e_X6_drop_10, e_X6_drop_11, e_X6_drop_14, e_X6_drop_15, e_X6_drop_18, e_X6_drop_21, e_X6_drop_22, e_X6_drop_23, e_X6_drop_26, e_X6_drop_27, e_X6_drop_28, e_X6_drop_29, e_X6_drop_32, e_X6_drop_33, e_X6_drop_36, e_X6_drop_39, k_X3_isRow, jm_bd_v, jm_bd_0, bv1, if_false, if_true, not_false_eq_true, not_true_eq_false, if_neg hr]
    · show jm_R 12 md_X7_drop 0 [.ref 217, .int r, .null] [] _ = _
      simp only [e_X7_drop_0, e_X7_drop_1, e_X7_drop_4, e_X7_drop_7, e_X7_drop_9, e_X7_drop_10, e_X7_drop_11, e_X7_drop_14, e_X7_drop_15, e_X7_drop_16, e_X7_drop_19, e_X7_drop_20, e_X7_drop_21, e_X7_drop_24, e_X7_drop_25, e_X7_drop_26, e_X7_drop_29, e_X7_drop_30, e_X7_drop_31, e_X7_drop_32, e_X7_drop_33, e_X7_drop_36, e_X7_drop_37, e_X7_drop_38, e_X7_drop_39, e_X7_drop_40, e_X7_drop_41, e_X7_drop_44, isRow7, jm_bd_v, jm_bd_0, bv1, if_false, if_true, not_false_eq_true, not_true_eq_false, if_neg hr]
