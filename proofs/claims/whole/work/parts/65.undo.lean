/-! feed -/
theorem api_feed (b : Int32) : Api md_X6_feed md_X7_feed [.int b] := by
  intro m hR
  by_cases hb : ¬ b < nI 0 ∧ ¬ nI 255 < b
  · obtain ⟨t1, k, hk, t2, t3, t4⟩ := hR.2.2.1
    by_cases hf : k = 120
    · subst hf
      refine Api.bad hR (r := .int (-1000003)) ?_ ?_
      · show jm_R 12 md_X6_feed 0 [.ref 0, .int b] [] _ = _
        have kf : jm_K 11 md_X5_isFull [.ref 13] (jm_mk m) = some (some (.int (nI 1)), jm_mk m) := by
          show jm_R 11 md_X5_isFull 0 [.ref 13] [] _ = _
          simp only [e_X5_isFull_0, e_X5_isFull_1, e_X5_isFull_4, e_X5_isFull_6, e_X5_isFull_9, e_X5_isFull_10, e_X5_isFull_13, e_X5_isFull_14, t2, show ¬ nI 120 < nI 120 by decide, if_false, true_or, or_true]
        simp only [e_X6_feed_0, e_X6_feed_1, e_X6_feed_2, e_X6_feed_5, e_X6_feed_8, e_X6_feed_11, e_X6_feed_13, e_X6_feed_14, e_X6_feed_15, e_X6_feed_18, e_X6_feed_21, e_X6_feed_24, e_X6_feed_26, e_X6_feed_27, e_X6_feed_28, e_X6_feed_31, e_X6_feed_32, e_X6_feed_35, k_X6_within, jm_bd_v, jm_bd_0, bv1, if_false, if_true, not_false_eq_true, not_true_eq_false, if_pos hb, kf]
      · show jm_R 12 md_X7_feed 0 [.ref 217, .int b] [] _ = _
        simp only [e_X7_feed_0, e_X7_feed_1, e_X7_feed_2, e_X7_feed_3, e_X7_feed_6, e_X7_feed_9, e_X7_feed_12, e_X7_feed_14, e_X7_feed_15, e_X7_feed_16, e_X7_feed_19, e_X7_feed_21, e_X7_feed_24, e_X7_feed_26, e_X7_feed_27, e_X7_feed_28, e_X7_feed_31, e_X7_feed_32, e_X7_feed_35, e_X7_feed_36, e_X7_feed_37, e_X7_feed_38, e_X7_feed_39, e_X7_feed_42, e_X7_feed_43, e_X7_feed_44, e_X7_feed_47, e_X7_feed_48, e_X7_feed_51, in_0_255, jm_bd_v, jm_bd_0, bv1, if_false, if_true, not_false_eq_true, not_true_eq_false, if_pos hb, t3]
    · have hk' : k < 120 := by omega
      have h1 : nI k < nI 120 := nI_lt hk' (by omega)
      have h2 : ¬ nI k = nI 120 := fun e => hf ((nI_eq (by omega) (by omega)).mp e)
      have kf : ∀ d, jm_K d md_X5_isFull [.ref 13] (jm_mk m) = some (some (.int (nI 0)), jm_mk m) := fun d => by
        show jm_R d md_X5_isFull 0 [.ref 13] [] _ = _
        simp only [e_X5_isFull_0, e_X5_isFull_1, e_X5_isFull_4, e_X5_isFull_6, e_X5_isFull_9, e_X5_isFull_10, e_X5_isFull_13, e_X5_isFull_14, t2, h1, if_true, true_or, or_true]
      obtain ⟨bb, -, hbb, rfl⟩ := rg_of hb (by omega) (by omega)
      have ka : jm_K 11 md_X5_add [.ref 13, .int (nI bb)] (jm_mk m) = some (some (.int (nI (k + 1))), jm_mk (jm_up (jm_up m 14 k (nI bb)) 13 1 (nI (k + 1)))) := by
        show jm_R 11 md_X5_add 0 [.ref 13, .int (nI bb)] [] _ = _
        simp only [e_X5_add_0, e_X5_add_1, e_X5_add_4, e_X5_add_7, e_X5_add_8, e_X5_add_11, e_X5_add_12, e_X5_add_13, e_X5_add_16, e_X5_add_17, e_X5_add_20, e_X5_add_21, e_X5_add_22, e_X5_add_23, e_X5_add_24, e_X5_add_27, e_X5_add_28, e_X5_add_29, e_X5_add_32, e_X5_add_33, e_X5_add_36, kf, jm_bd_v, jm_bd_0, bv1, if_false, if_true, not_false_eq_true, not_true_eq_false, t2, hk', jupr (show (13 : Nat) ≠ 14 by decide), nI_add, jup_eq]
      refine ⟨.int (nI (k + 1)), jm_up (jm_up m 14 k (nI bb)) 13 1 (nI (k + 1)), jm_up (jm_up (jm_up (jm_up m 14 k (nI bb)) 13 1 (nI (k + 1))) 223 k (nI bb)) 217 8 (nI (k + 1)), ?_, ?_, ?_⟩
      · show jm_R 12 md_X6_feed 0 [.ref 0, .int (nI bb)] [] _ = _
        simp only [e_X6_feed_0, e_X6_feed_1, e_X6_feed_2, e_X6_feed_5, e_X6_feed_8, e_X6_feed_11, e_X6_feed_13, e_X6_feed_14, e_X6_feed_15, e_X6_feed_18, e_X6_feed_21, e_X6_feed_24, e_X6_feed_26, e_X6_feed_27, e_X6_feed_28, e_X6_feed_31, e_X6_feed_32, e_X6_feed_35, k_X6_within, jm_bd_v, jm_bd_0, bv1, if_false, if_true, not_false_eq_true, not_true_eq_false, if_pos hb, kf, ka]
      · show jm_R 12 md_X7_feed 0 [.ref 217, .int (nI bb)] [] _ = _
        have r8 : jm_up (jm_up m 14 k (nI bb)) 13 1 (nI (k + 1)) 217 8 = nI k := by rw [jupr (by decide), jupr (by decide)]; exact t3
        have r8' : jm_up (jm_up (jm_up m 14 k (nI bb)) 13 1 (nI (k + 1))) 223 k (nI bb) 217 8 = nI k := by rw [jupr (by decide)]; exact r8
        simp only [e_X7_feed_0, e_X7_feed_1, e_X7_feed_2, e_X7_feed_3, e_X7_feed_6, e_X7_feed_9, e_X7_feed_12, e_X7_feed_14, e_X7_feed_15, e_X7_feed_16, e_X7_feed_19, e_X7_feed_21, e_X7_feed_24, e_X7_feed_26, e_X7_feed_27, e_X7_feed_28, e_X7_feed_31, e_X7_feed_32, e_X7_feed_35, e_X7_feed_36, e_X7_feed_37, e_X7_feed_38, e_X7_feed_39, e_X7_feed_42, e_X7_feed_43, e_X7_feed_44, e_X7_feed_47, e_X7_feed_48, e_X7_feed_51, in_0_255, jm_bd_v, jm_bd_0, bv1, if_false, if_true, not_false_eq_true, not_true_eq_false, if_pos hb, r8, h2, hk', r8', nI_add, jup_eq]
      · obtain ⟨g1, g2, g3, g4, g5, g6, g7⟩ := hR
        generalize hM : jm_up (jm_up (jm_up (jm_up m 14 k (nI bb)) 13 1 (nI (k + 1))) 223 k (nI bb)) 217 8 (nI (k + 1)) = M
        have ro : ∀ a, a ≠ 13 → a ≠ 14 → a ≠ 223 → a ≠ 217 → M a = m a := fun a h1 h2 h3 h4 => by rw [← hM, jupr h4, jupr h3, jupr h1, jupr h2]
        have r7 : ∀ j, j ≠ 8 → M 217 j = m 217 j := fun j hj => by rw [← hM, jup_ne (fun q => hj q.2), jupr (by decide), jupr (by decide), jupr (by decide)]
        have r13 : ∀ j, j ≠ 1 → M 13 j = m 13 j := fun j hj => by rw [← hM, jupr (by decide), jupr (by decide), jup_ne (fun q => hj q.2), jupr (by decide)]
        refine ⟨g1.c (fun a ha => ro a (by omega) (by omega) (by omega) (by omega)), g2.c (by rw [ro 0 (by decide) (by decide) (by decide) (by decide)]) (r7 3 (by decide)), ⟨by rw [r13 2 (by decide), r7 9 (by decide)]; exact t1, k + 1, by omega, ?_, ?_, fun i hi => ?_⟩, g4.c (r7 4 (by decide)) (fun a ha hb => ro a (by omega) (by omega) (by omega) (by omega)) (fun j _ => by rw [ro 221 (by decide) (by decide) (by decide) (by decide)]) (r7 17 (by decide)), g5.c (by rw [ro 15 (by decide) (by decide) (by decide) (by decide)]) (by rw [ro 15 (by decide) (by decide) (by decide) (by decide)]) (r7 17 (by decide)) (fun a ha hb => ro a (by omega) (by omega) (by omega) (by omega)) (ro 225 (by decide) (by decide) (by decide) (by decide)), g6.c (fun a ha hb => ro a (by omega) (by omega) (by omega) (by omega)) (ro 227 (by decide) (by decide) (by decide) (by decide)) (ro 228 (by decide) (by decide) (by decide) (by decide)) (r7 4 (by decide)), g7.c (by rw [ro 215 (by decide) (by decide) (by decide) (by decide)]) (r7 22 (by decide)) (ro 216 (by decide) (by decide) (by decide) (by decide)) (ro 229 (by decide) (by decide) (by decide) (by decide))⟩
        · rw [← hM, jupr (by decide), jupr (by decide), jup_eq]
        · rw [← hM, jup_eq]
        · have e14 : M 14 i = if i = k then nI bb else m 14 i := by
            rw [← hM, jupr (by decide), jupr (by decide), jupr (by decide)]
            unfold jm_up
            simp
          have e23 : M 223 i = if i = k then nI bb else m 223 i := by
            rw [← hM, jupr (by decide)]
            unfold jm_up
            simp
          rw [e14, e23]
          by_cases q : i = k
          · rw [if_pos q, if_pos q]
            exact ⟨rfl, bb, by omega, rfl⟩
          · rw [if_neg q, if_neg q]
            exact t4 i (by omega)
  · refine Api.bad hR (r := .int (-1000001)) ?_ ?_
    · show jm_R 12 md_X6_feed 0 [.ref 0, .int b] [] _ = _
      simp only [e_X6_feed_0, e_X6_feed_1, e_X6_feed_2, e_X6_feed_5, e_X6_feed_8, e_X6_feed_11, e_X6_feed_13, e_X6_feed_14, e_X6_feed_15, e_X6_feed_18, e_X6_feed_21, e_X6_feed_24, e_X6_feed_26, e_X6_feed_27, e_X6_feed_28, e_X6_feed_31, e_X6_feed_32, e_X6_feed_35, k_X6_within, jm_bd_v, jm_bd_0, bv1, if_false, if_true, not_false_eq_true, not_true_eq_false, if_neg hb]
    · show jm_R 12 md_X7_feed 0 [.ref 217, .int b] [] _ = _
      simp only [e_X7_feed_0, e_X7_feed_1, e_X7_feed_2, e_X7_feed_3, e_X7_feed_6, e_X7_feed_9, e_X7_feed_12, e_X7_feed_14, e_X7_feed_15, e_X7_feed_16, e_X7_feed_19, e_X7_feed_21, e_X7_feed_24, e_X7_feed_26, e_X7_feed_27, e_X7_feed_28, e_X7_feed_31, e_X7_feed_32, e_X7_feed_35, e_X7_feed_36, e_X7_feed_37, e_X7_feed_38, e_X7_feed_39, e_X7_feed_42, e_X7_feed_43, e_X7_feed_44, e_X7_feed_47, e_X7_feed_48, e_X7_feed_51, in_0_255, jm_bd_v, jm_bd_0, bv1, if_false, if_true, not_false_eq_true, not_true_eq_false, if_neg hb]
/-! undo -/
def ubP (m : Nat → Nat → Int32) (e k : Nat) : Nat → Nat → Int32 := jm_up (jm_up m 15 1 (nI ((e + 23) % 24))) 15 2 (nI (k - 1))
def ubC (m : Nat → Nat → Int32) (e k : Nat) : Nat → Nat → Int32 := wrI (ubP m e k) 200 (becI (vwI (ubP m e k) 200) (vwI (ubP m e k) (17 + 7 * ((e + 23) % 24))))
theorem ubP_o {m : Nat → Nat → Int32} {e k a : Nat} (h : a ≠ 15) : ubP m e k a = m a := by
  unfold ubP
  rw [jupr h, jupr h]
theorem wrI_ne15 {m x : Nat → Nat → Int32} : wrI m 200 x 15 = m 15 := by
  funext j
  unfold wrI
  rw [if_neg (by decide)]
theorem k_X0_takeBack {d e k : Nat} {m : Nat → Nat → Int32} (he : e < 24) (hk : k ≤ 24) (hk1 : 1 ≤ k) (h1 : m 15 1 = nI e) (h2 : m 15 2 = nI k) : jm_K (d + 2) md_X0_takeBack [.ref 15, .ref 200] (jm_mk m) = some (none, jm_mk (ubC m e k)) := by
  show jm_R (d + 2) md_X0_takeBack 0 [.ref 15, .ref 200] [] _ = _
  have he' : (e + 23) % 24 < 24 := by omega
  obtain ⟨i1, i2⟩ := ia_kp ((e + 23) % 24) he'
  have hb := k_X2_become (d := d) (a := 200) (b := 17 + 7 * ((e + 23) % 24)) (m := ubP m e k) (by decide) i1 (fun h => i2 h.symm)
  have g1 : ¬ nI k < nI 1 := nI_nlt (by omega) (by omega)
  have g1' : nI 1 ≤ nI k := nI_le (by omega) (by omega)
  have r2 : jm_up m 15 1 (nI ((e + 23) % 24)) 15 2 = nI k := by rw [jup_ne (by decide)]; exact h2
  have es : nI (e + 24) - nI 1 = nI (e + 23) := nI_subN (by omega) (by omega)
  have ek : nI k - nI 1 = nI (k - 1) := nI_subN (by omega) (by omega)
  have r3 : jm_up (jm_up m 15 1 (nI ((e + 23) % 24))) 15 2 (nI (k - 1)) 15 1 = nI ((e + 23) % 24) := by rw [jup_ne (by decide), jup_eq]
  unfold ubC
  unfold ubP at hb ⊢
  simp only [e_X0_takeBack_0, e_X0_takeBack_1, e_X0_takeBack_4, e_X0_takeBack_5, e_X0_takeBack_8, e_X0_takeBack_9, e_X0_takeBack_10, e_X0_takeBack_11, e_X0_takeBack_14, e_X0_takeBack_16, e_X0_takeBack_17, e_X0_takeBack_18, e_X0_takeBack_19, e_X0_takeBack_21, e_X0_takeBack_22, e_X0_takeBack_25, e_X0_takeBack_26, e_X0_takeBack_27, e_X0_takeBack_30, e_X0_takeBack_31, e_X0_takeBack_32, e_X0_takeBack_35, e_X0_takeBack_36, e_X0_takeBack_37, e_X0_takeBack_40, e_X0_takeBack_41, e_X0_takeBack_44, e_X0_takeBack_45, e_X0_takeBack_48, h2, g1, g1', if_false, if_true, h1, nI_add, es, n24, not_false_eq_true, rem24 (e + 23) (show e + 23 < 48 by omega), r2, ek, r3, he', show jm_ia 200 = true by decide, hb, jm_bd_0]
theorem lp_X7_undo {n : Nat} {m : Nat → Nat → Int32} {y : Nat → Int32} (hn : n < 24) (h17 : m 217 17 = nI n) : ∀ (k c : Nat), c + k = 44 → jm_R 12 md_X7_undo 22 [.ref 217, .int (nI c)] [] (jm_mk (wrA m 221 (cpk (fun t => m 225 (44 * n + t)) y c))) = some (some (.int (nI n)), jm_mk (wrA m 221 (cpk (fun t => m 225 (44 * n + t)) y 44))) := by
  have r17 : ∀ g, wrA m 221 g 217 17 = nI n := fun g => by rw [wrA_ne (by decide)]; exact h17
  intro k
  induction k with
  | zero =>
    intro c h
    have h1 : nI 44 ≤ nI c := nI_le (by omega) (by omega)
    rw [e_X7_undo_22]
    simp only [e_X7_undo_0, e_X7_undo_1, e_X7_undo_4, e_X7_undo_7, e_X7_undo_9, e_X7_undo_10, e_X7_undo_11, e_X7_undo_12, e_X7_undo_15, e_X7_undo_16, e_X7_undo_17, e_X7_undo_20, e_X7_undo_21, e_X7_undo_23, e_X7_undo_25, e_X7_undo_28, e_X7_undo_29, e_X7_undo_32, e_X7_undo_33, e_X7_undo_34, e_X7_undo_37, e_X7_undo_39, e_X7_undo_40, e_X7_undo_43, e_X7_undo_44, e_X7_undo_45, e_X7_undo_46, e_X7_undo_47, e_X7_undo_48, e_X7_undo_51, e_X7_undo_54, e_X7_undo_55, e_X7_undo_58, h1, if_true, r17]
    rw [show c = 44 by omega]
  | succ k ih =>
    intro c h
    have h1 : ¬ nI 44 ≤ nI c := nI_ge (by omega) (by omega)
    have h2 : c < 44 := by omega
    have h3 : 44 * n + c < 1056 := by omega
    have es := cpk_s (z := fun t => m 225 (44 * n + t)) (y := y) (c := c)
    rw [e_X7_undo_22]
    simp only [e_X7_undo_0, e_X7_undo_1, e_X7_undo_4, e_X7_undo_7, e_X7_undo_9, e_X7_undo_10, e_X7_undo_11, e_X7_undo_12, e_X7_undo_15, e_X7_undo_16, e_X7_undo_17, e_X7_undo_20, e_X7_undo_21, e_X7_undo_23, e_X7_undo_25, e_X7_undo_28, e_X7_undo_29, e_X7_undo_32, e_X7_undo_33, e_X7_undo_34, e_X7_undo_37, e_X7_undo_39, e_X7_undo_40, e_X7_undo_43, e_X7_undo_44, e_X7_undo_45, e_X7_undo_46, e_X7_undo_47, e_X7_undo_48, e_X7_undo_51, e_X7_undo_54, e_X7_undo_55, e_X7_undo_58, h1, if_false, r17, nI_mulN, nI_add, h2, h3, wrA_ne (show (225 : Nat) ≠ 221 by decide), wrA_up]
    rw [es]
    exact ih (c + 1) (by omega)
theorem api_undo : Api md_X6_undo md_X7_undo [] := by
  intro m hR
  obtain ⟨g1, g2, g3, g4, g5, g6, g7⟩ := id hR
  obtain ⟨e, k, he, hk, h15, h25, h17, hG⟩ := g5
  by_cases k0 : k = 0
  · subst k0
    refine Api.bad hR (r := .int (-1000002)) ?_ ?_
    · show jm_R 12 md_X6_undo 0 [.ref 0] [] _ = _
      simp only [e_X6_undo_0, e_X6_undo_1, e_X6_undo_4, e_X6_undo_7, e_X6_undo_8, e_X6_undo_11, e_X6_undo_13, e_X6_undo_14, e_X6_undo_15, e_X6_undo_18, e_X6_undo_19, e_X6_undo_22, e_X6_undo_25, e_X6_undo_26, e_X6_undo_29, e_X6_undo_32, h25, show ¬ nI 1 ≤ nI 0 by decide, jm_bd_v, jm_bd_0, bv1, if_false, if_true, not_false_eq_true, not_true_eq_false]
    · show jm_R 12 md_X7_undo 0 [.ref 217, .null] [] _ = _
      simp only [e_X7_undo_0, e_X7_undo_1, e_X7_undo_4, e_X7_undo_7, e_X7_undo_9, e_X7_undo_10, e_X7_undo_11, e_X7_undo_12, e_X7_undo_15, e_X7_undo_16, e_X7_undo_17, e_X7_undo_20, e_X7_undo_21, e_X7_undo_23, e_X7_undo_25, e_X7_undo_28, e_X7_undo_29, e_X7_undo_32, e_X7_undo_33, e_X7_undo_34, e_X7_undo_37, e_X7_undo_39, e_X7_undo_40, e_X7_undo_43, e_X7_undo_44, e_X7_undo_45, e_X7_undo_46, e_X7_undo_47, e_X7_undo_48, e_X7_undo_51, e_X7_undo_54, e_X7_undo_55, e_X7_undo_58, h17, jm_bd_v, jm_bd_0, bv1, if_false, if_true, not_false_eq_true, not_true_eq_false]
  · have hk1 : 1 ≤ k := by omega
    have hth : m 217 4 = nI 1 := by
      rcases g4 with ⟨-, -, -, -, -, -, -, -, -, z⟩ | ⟨z, -⟩
      · rw [h17] at z; exact absurd ((nI_eq (by omega) (by decide)).mp z) k0
      · exact z
    have hlt : 1 ≤ k := hk1
    have q1 : nI 1 ≤ nI k := nI_le hk1 (by omega)
    have q2 : ¬ nI k = nI 0 := fun h => k0 ((nI_eq (by omega) (by decide)).mp h)
    have he' : (e + 23) % 24 < 24 := by omega
    have r152 : ubC m e k 15 2 = nI (k - 1) := by
      unfold ubC
      rw [wrI_ne15]
      unfold ubP
      rw [jup_eq]
    have ro : ∀ a, a ≠ 15 → ¬ (200 ≤ a ∧ a < 207) → ubC m e k a = m a := fun a h1 h2 => by
      unfold ubC
      funext j
      unfold wrI
      rw [if_neg h2, ubP_o h1]
    generalize hM : jm_up (ubC m e k) 217 17 (nI (k - 1)) = M
    have M17 : M 217 17 = nI (k - 1) := by rw [← hM, jup_eq]
    have hl := lp_X7_undo (m := M) (y := M 221) (n := k - 1) (by omega) M17 44 0 rfl
    rw [cpk_0, wrA_self] at hl
    have eM : ∀ a, a ≠ 15 → ¬ (200 ≤ a ∧ a < 207) → a ≠ 217 → M a = m a := fun a h1 h2 h3 => by rw [← hM, jupr h3, ro a h1 h2]
    refine ⟨.int (nI (k - 1)), ubC m e k, wrA M 221 (cpk (fun t => M 225 (44 * (k - 1) + t)) (M 221) 44), ?_, ?_, ?_⟩
    · show jm_R 12 md_X6_undo 0 [.ref 0] [] _ = _
      simp only [e_X6_undo_0, e_X6_undo_1, e_X6_undo_4, e_X6_undo_7, e_X6_undo_8, e_X6_undo_11, e_X6_undo_13, e_X6_undo_14, e_X6_undo_15, e_X6_undo_18, e_X6_undo_19, e_X6_undo_22, e_X6_undo_25, e_X6_undo_26, e_X6_undo_29, e_X6_undo_32, h25, q1, jm_bd_v, jm_bd_0, bv1, if_false, if_true, not_false_eq_true, not_true_eq_false, k_X0_takeBack he hk hk1 h15 h25, r152]
    · show jm_R 12 md_X7_undo 0 [.ref 217, .null] [] _ = _
      have r17 : ubC m e k 217 17 = nI k := by rw [ro 217 (by decide) (by decide)]; exact h17
      simp only [e_X7_undo_0, e_X7_undo_1, e_X7_undo_4, e_X7_undo_7, e_X7_undo_9, e_X7_undo_10, e_X7_undo_11, e_X7_undo_12, e_X7_undo_15, e_X7_undo_16, e_X7_undo_17, e_X7_undo_20, e_X7_undo_21, e_X7_undo_23, e_X7_undo_25, e_X7_undo_28, e_X7_undo_29, e_X7_undo_32, e_X7_undo_33, e_X7_undo_34, e_X7_undo_37, e_X7_undo_39, e_X7_undo_40, e_X7_undo_43, e_X7_undo_44, e_X7_undo_45, e_X7_undo_46, e_X7_undo_47, e_X7_undo_48, e_X7_undo_51, e_X7_undo_54, e_X7_undo_55, e_X7_undo_58, r17, q2, jm_bd_v, jm_bd_0, bv1, if_false, if_true, not_false_eq_true, not_true_eq_false, nI_subN hk1 (show k < 1000000 by omega), hM]
      exact hl
    · have r2 : ∀ a, a ≠ 15 → ¬ (200 ≤ a ∧ a < 207) → a ≠ 217 → a ≠ 221 → wrA M 221 (cpk (fun t => M 225 (44 * (k - 1) + t)) (M 221) 44) a = m a := fun a h1 h2 h3 h4 => by rw [wrA_ne h4, eM a h1 h2 h3]
      have r7 : ∀ j, j ≠ 17 → wrA M 221 (cpk (fun t => M 225 (44 * (k - 1) + t)) (M 221) 44) 217 j = m 217 j := fun j hj => by rw [wrA_ne (by decide), ← hM, jup_ne (fun q => hj q.2), ro 217 (by decide) (by decide)]
      have gk := hG (k - 1) (by omega)
      have ek : kpA e k (k - 1) = 17 + 7 * ((e + 23) % 24) := by unfold kpA; omega
      rw [ek] at gk
      refine ⟨g1.c (fun a ha => r2 a (by omega) (by omega) (by omega) (by omega)), g2.c (by rw [r2 0 (by decide) (by decide) (by decide) (by decide)]) (r7 3 (by decide)), g3.c (by rw [r2 13 (by decide) (by decide) (by decide) (by decide)]) (by rw [r2 13 (by decide) (by decide) (by decide) (by decide)]) (r7 8 (by decide)) (r7 9 (by decide)) (r2 14 (by decide) (by decide) (by decide) (by decide)) (r2 223 (by decide) (by decide) (by decide) (by decide)), Or.inr ⟨by rw [r7 4 (by decide)]; exact hth, ?_⟩, ⟨(e + 23) % 24, k - 1, he', by omega, ?_, ?_, ?_, fun i hi => ?_⟩, g6.c (fun a ha hb => r2 a (by omega) (by omega) (by omega) (by omega)) (r2 227 (by decide) (by decide) (by decide) (by decide)) (r2 228 (by decide) (by decide) (by decide) (by decide)) (r7 4 (by decide)), g7.c (by rw [r2 215 (by decide) (by decide) (by decide) (by decide)]) (r7 22 (by decide)) (r2 216 (by decide) (by decide) (by decide) (by decide)) (r2 229 (by decide) (by decide) (by decide) (by decide))⟩
      · refine (GX.bec (w := vwI (ubP m e k) 200) gk).cg (fun r hr => ?_) (fun j hj => ?_)
        · show wrA M 221 _ (200 + r) = _
          rw [wrA_ne (by omega), ← hM, jupr (by omega)]
          unfold ubC
          funext j
          rw [wrI_r r hr]
          unfold becI
          rw [show vwI (ubP m e k) (17 + 7 * ((e + 23) % 24)) 0 = vwI m (17 + 7 * ((e + 23) % 24)) 0 from ubP_o (by omega), show vwI (ubP m e k) (17 + 7 * ((e + 23) % 24)) r = vwI m (17 + 7 * ((e + 23) % 24)) r from ubP_o (by omega)]
        · rw [wrA_at]
          show (if j < 44 then M 225 (44 * (k - 1) + j) else M 221 j) = m 225 (44 * (k - 1) + j)
          rw [if_pos hj, eM 225 (by decide) (by decide) (by decide)]
      · rw [wrA_ne (by decide), ← hM, jupr (by decide)]
        unfold ubC
        rw [wrI_ne15]
        unfold ubP
        rw [jup_ne (by decide), jup_eq]
      · rw [wrA_ne (by decide), ← hM, jupr (by decide)]
        exact r152
      · rw [wrA_ne (by decide)]
        exact M17
      · have ea : kpA ((e + 23) % 24) (k - 1) i = kpA e k i := by unfold kpA; omega
        rw [ea]
        refine (hG i (by omega)).cg (fun r hr => ?_) (fun j hj => ?_)
        · show wrA M 221 _ (kpA e k i + r) = m (kpA e k i + r)
          exact r2 _ (by unfold kpA; omega) (by unfold kpA; omega) (by unfold kpA; omega) (by unfold kpA; omega)
        · rw [r2 225 (by decide) (by decide) (by decide) (by decide)]
