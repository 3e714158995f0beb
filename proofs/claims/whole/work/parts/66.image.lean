/-! image, restore -/
set_option maxRecDepth 100000 in
theorem ia_im : ∀ k, k < 2 → jm_ia (186 + 7 * k) = true ∧ 186 + 7 * k ≠ 200 := by decide +kernel
theorem lp_X7_image {q : Nat} {m : Nat → Nat → Int32} {f : Nat → Int32} (hq : q < 2) : ∀ (k c : Nat), c + k = 44 → jm_R 12 md_X7_image 25 [.ref 217, .int (nI q), .int (nI c)] [] (jm_mk (wrA m 228 (seg (44 * q) (m 221) f c))) = some (some (.int (nI 1)), jm_mk (jm_up (wrA m 228 (seg (44 * q) (m 221) f 44)) 227 q (nI 1))) := by
  intro k
  induction k with
  | zero =>
    intro c h
    have h1 : nI 44 ≤ nI c := nI_le (by omega) (by omega)
    rw [e_X7_image_25]
    simp only [e_X7_image_0, e_X7_image_1, e_X7_image_2, e_X7_image_3, e_X7_image_4, e_X7_image_7, e_X7_image_10, e_X7_image_12, e_X7_image_13, e_X7_image_14, e_X7_image_17, e_X7_image_20, e_X7_image_22, e_X7_image_23, e_X7_image_24, e_X7_image_26, e_X7_image_28, e_X7_image_31, e_X7_image_32, e_X7_image_35, e_X7_image_37, e_X7_image_38, e_X7_image_39, e_X7_image_40, e_X7_image_41, e_X7_image_42, e_X7_image_45, e_X7_image_46, e_X7_image_47, e_X7_image_48, e_X7_image_51, e_X7_image_54, e_X7_image_55, e_X7_image_58, e_X7_image_59, e_X7_image_60, e_X7_image_61, e_X7_image_62, h1, if_true, hq]
    rw [show c = 44 by omega]
  | succ k ih =>
    intro c h
    have h1 : ¬ nI 44 ≤ nI c := nI_ge (by omega) (by omega)
    have h2 : c < 44 := by omega
    have h3 : 44 * q + c < 88 := by omega
    rw [e_X7_image_25]
    simp only [e_X7_image_0, e_X7_image_1, e_X7_image_2, e_X7_image_3, e_X7_image_4, e_X7_image_7, e_X7_image_10, e_X7_image_12, e_X7_image_13, e_X7_image_14, e_X7_image_17, e_X7_image_20, e_X7_image_22, e_X7_image_23, e_X7_image_24, e_X7_image_26, e_X7_image_28, e_X7_image_31, e_X7_image_32, e_X7_image_35, e_X7_image_37, e_X7_image_38, e_X7_image_39, e_X7_image_40, e_X7_image_41, e_X7_image_42, e_X7_image_45, e_X7_image_46, e_X7_image_47, e_X7_image_48, e_X7_image_51, e_X7_image_54, e_X7_image_55, e_X7_image_58, e_X7_image_59, e_X7_image_60, e_X7_image_61, e_X7_image_62, h1, if_false, nI_mulN, nI_add, h2, h3, wrA_ne (show (221 : Nat) ≠ 228 by decide), wrA_up, seg_s, ih (c + 1) (show c + 1 + k = 44 by omega)]
theorem api_image (n : Int32) : Api md_X6_image md_X7_image [.int n] := by
  intro m hR
  obtain ⟨C, N, hC6, hN6, c6, m4, c5, m3, hcase⟩ := hR.isle
  have hI : jm_ia 200 = true := by decide
  by_cases hn : ¬ n < nI 0 ∧ ¬ nI 1 < n
  · rcases hcase with ⟨q0, q1, q2⟩ | ⟨q0, q2, g⟩
    · subst q0
      refine Api.bad hR (r := .int (-1000002)) ?_ ?_
      · show jm_R 12 md_X6_image 0 [.ref 0, .int n] [] _ = _
        simp only [e_X6_image_0, e_X6_image_1, e_X6_image_2, e_X6_image_3, e_X6_image_6, e_X6_image_9, e_X6_image_11, e_X6_image_12, e_X6_image_13, e_X6_image_16, e_X6_image_19, e_X6_image_22, e_X6_image_24, e_X6_image_25, e_X6_image_26, e_X6_image_29, e_X6_image_30, e_X6_image_31, e_X6_image_32, e_X6_image_35, e_X6_image_38, e_X6_image_39, k_X2_hasBoat hI, k_X2_stands hI, k_X2_hasCell hI, c6, c5, k_X6_within, jm_bd_v, jm_bd_0, bv1, if_false, if_true, not_false_eq_true, not_true_eq_false, if_pos hn, nI_le (Nat.le_refl 0) (show 0 < 2 ^ 31 by decide)]
      · show jm_R 12 md_X7_image 0 [.ref 217, .int n, .null] [] _ = _
        simp only [e_X7_image_0, e_X7_image_1, e_X7_image_2, e_X7_image_3, e_X7_image_4, e_X7_image_7, e_X7_image_10, e_X7_image_12, e_X7_image_13, e_X7_image_14, e_X7_image_17, e_X7_image_20, e_X7_image_22, e_X7_image_23, e_X7_image_24, e_X7_image_26, e_X7_image_28, e_X7_image_31, e_X7_image_32, e_X7_image_35, e_X7_image_37, e_X7_image_38, e_X7_image_39, e_X7_image_40, e_X7_image_41, e_X7_image_42, e_X7_image_45, e_X7_image_46, e_X7_image_47, e_X7_image_48, e_X7_image_51, e_X7_image_54, e_X7_image_55, e_X7_image_58, e_X7_image_59, e_X7_image_60, e_X7_image_61, e_X7_image_62, in_0_1, q2, jm_bd_v, jm_bd_0, bv1, if_false, if_true, not_false_eq_true, not_true_eq_false, if_pos hn]
    · have hst := stN q0 hN6
      have hth := thereOf q2
      obtain ⟨q, -, hq1, rfl⟩ := rg_of hn (by omega) (by omega)
      have hq : q < 2 := by omega
      obtain ⟨i1, i2⟩ := ia_im q hq
      have hb := k_X2_become (d := 10) (a := 186 + 7 * q) (b := 200) (m := m) i1 (by decide) i2
      generalize hM : wrI m (186 + 7 * q) (becI (vwI m (186 + 7 * q)) (vwI m 200)) = M at hb
      have ro : ∀ a, ¬ (186 + 7 * q ≤ a ∧ a < 186 + 7 * q + 7) → M a = m a := fun a h => by
        rw [← hM]
        funext j
        unfold wrI
        rw [if_neg h]
      have hl := lp_X7_image (m := M) (f := M 228) hq 44 0 rfl
      rw [seg_0, wrA_self] at hl
      refine ⟨.int (nI 1), M, jm_up (wrA M 228 (seg (44 * q) (M 221) (M 228) 44)) 227 q (nI 1), ?_, ?_, ?_⟩
      · show jm_R 12 md_X6_image 0 [.ref 0, .int (nI q)] [] _ = _
        simp only [e_X6_image_0, e_X6_image_1, e_X6_image_2, e_X6_image_3, e_X6_image_6, e_X6_image_9, e_X6_image_11, e_X6_image_12, e_X6_image_13, e_X6_image_16, e_X6_image_19, e_X6_image_22, e_X6_image_24, e_X6_image_25, e_X6_image_26, e_X6_image_29, e_X6_image_30, e_X6_image_31, e_X6_image_32, e_X6_image_35, e_X6_image_38, e_X6_image_39, k_X2_hasBoat hI, k_X2_stands hI, k_X2_hasCell hI, c6, c5, k_X6_within, jm_bd_v, jm_bd_0, bv1, if_false, if_true, not_false_eq_true, not_true_eq_false, if_pos hn, hst, hq, i1, hb]
      · show jm_R 12 md_X7_image 0 [.ref 217, .int (nI q), .null] [] _ = _
        simp only [e_X7_image_0, e_X7_image_1, e_X7_image_2, e_X7_image_3, e_X7_image_4, e_X7_image_7, e_X7_image_10, e_X7_image_12, e_X7_image_13, e_X7_image_14, e_X7_image_17, e_X7_image_20, e_X7_image_22, e_X7_image_23, e_X7_image_24, e_X7_image_26, e_X7_image_28, e_X7_image_31, e_X7_image_32, e_X7_image_35, e_X7_image_37, e_X7_image_38, e_X7_image_39, e_X7_image_40, e_X7_image_41, e_X7_image_42, e_X7_image_45, e_X7_image_46, e_X7_image_47, e_X7_image_48, e_X7_image_51, e_X7_image_54, e_X7_image_55, e_X7_image_58, e_X7_image_59, e_X7_image_60, e_X7_image_61, e_X7_image_62, in_0_1, jm_bd_v, jm_bd_0, bv1, if_false, if_true, not_false_eq_true, not_true_eq_false, if_pos hn, ro 217 (by omega), hth]
        exact hl
      · obtain ⟨g1, g2, g3, g4, g5, g6, g7⟩ := hR
        have r2 : ∀ a, ¬ (186 ≤ a ∧ a < 200) → a ≠ 227 → a ≠ 228 → jm_up (wrA M 228 (seg (44 * q) (M 221) (M 228) 44)) 227 q (nI 1) a = m a := fun a h1 h2 h3 => by rw [jupr h2, wrA_ne h3, ro a (by omega)]
        refine ⟨g1.c (fun a ha => r2 a (by omega) (by omega) (by omega)), g2.c (by rw [r2 0 (by decide) (by decide) (by decide)]) (by rw [r2 217 (by decide) (by decide) (by decide)]), g3.c (by rw [r2 13 (by decide) (by decide) (by decide)]) (by rw [r2 13 (by decide) (by decide) (by decide)]) (by rw [r2 217 (by decide) (by decide) (by decide)]) (by rw [r2 217 (by decide) (by decide) (by decide)]) (r2 14 (by decide) (by decide) (by decide)) (r2 223 (by decide) (by decide) (by decide)), g4.c (by rw [r2 217 (by decide) (by decide) (by decide)]) (fun a ha hb => r2 a (by omega) (by omega) (by omega)) (fun j _ => by rw [r2 221 (by decide) (by decide) (by decide)]) (by rw [r2 217 (by decide) (by decide) (by decide)]), g5.c (by rw [r2 15 (by decide) (by decide) (by decide)]) (by rw [r2 15 (by decide) (by decide) (by decide)]) (by rw [r2 217 (by decide) (by decide) (by decide)]) (fun a ha hb => r2 a (by omega) (by omega) (by omega)) (r2 225 (by decide) (by decide) (by decide)), fun k hk => ?_, g7.c (by rw [r2 215 (by decide) (by decide) (by decide)]) (by rw [r2 217 (by decide) (by decide) (by decide)]) (r2 216 (by decide) (by decide) (by decide)) (r2 229 (by decide) (by decide) (by decide))⟩
        rw [r2 217 (by decide) (by decide) (by decide)]
        by_cases u : k = q
        · subst u
          refine Or.inr ⟨by rw [jup_eq], q2, ?_⟩
          refine (GX.bec (w := vwI m (186 + 7 * k)) g.gx).cg (fun r hr => ?_) (fun j hj => ?_)
          · show jm_up _ 227 k (nI 1) (186 + 7 * k + r) = _
            rw [jupr (by omega), wrA_ne (by omega), ← hM]
            funext j
            rw [wrI_r r hr]
          · rw [jupr (by decide), wrA_at, seg_in hj, ro 221 (by omega)]
        · have z1 : jm_up (wrA M 228 (seg (44 * q) (M 221) (M 228) 44)) 227 q (nI 1) (186 + 7 * k) = m (186 + 7 * k) := by rw [jupr (by omega), wrA_ne (by omega), ro _ (by omega)]
          have z2 : jm_up (wrA M 228 (seg (44 * q) (M 221) (M 228) 44)) 227 q (nI 1) 227 k = m 227 k := by rw [jup_ne (fun h => u h.2), wrA_ne (by decide), ro 227 (by omega)]
          rw [z1, z2]
          rcases g6 k hk with w | ⟨w1, w2, w3⟩
          · exact Or.inl w
          · refine Or.inr ⟨w1, w2, w3.cg (fun r hr => ?_) (fun j hj => ?_)⟩
            · show jm_up _ 227 q (nI 1) (186 + 7 * k + r) = m (186 + 7 * k + r)
              rw [jupr (by omega), wrA_ne (by omega), ro _ (by omega)]
            · rw [jupr (by decide), wrA_at, seg_out (by omega), ro 228 (by omega)]
  · refine Api.bad hR (r := .int (-1000001)) ?_ ?_
    · show jm_R 12 md_X6_image 0 [.ref 0, .int n] [] _ = _
      simp only [e_X6_image_0, e_X6_image_1, e_X6_image_2, e_X6_image_3, e_X6_image_6, e_X6_image_9, e_X6_image_11, e_X6_image_12, e_X6_image_13, e_X6_image_16, e_X6_image_19, e_X6_image_22, e_X6_image_24, e_X6_image_25, e_X6_image_26, e_X6_image_29, e_X6_image_30, e_X6_image_31, e_X6_image_32, e_X6_image_35, e_X6_image_38, e_X6_image_39, k_X2_hasBoat hI, k_X2_stands hI, k_X2_hasCell hI, c6, c5, k_X6_within, jm_bd_v, jm_bd_0, bv1, if_false, if_true, not_false_eq_true, not_true_eq_false, if_neg hn]
    · show jm_R 12 md_X7_image 0 [.ref 217, .int n, .null] [] _ = _
      simp only [e_X7_image_0, e_X7_image_1, e_X7_image_2, e_X7_image_3, e_X7_image_4, e_X7_image_7, e_X7_image_10, e_X7_image_12, e_X7_image_13, e_X7_image_14, e_X7_image_17, e_X7_image_20, e_X7_image_22, e_X7_image_23, e_X7_image_24, e_X7_image_26, e_X7_image_28, e_X7_image_31, e_X7_image_32, e_X7_image_35, e_X7_image_37, e_X7_image_38, e_X7_image_39, e_X7_image_40, e_X7_image_41, e_X7_image_42, e_X7_image_45, e_X7_image_46, e_X7_image_47, e_X7_image_48, e_X7_image_51, e_X7_image_54, e_X7_image_55, e_X7_image_58, e_X7_image_59, e_X7_image_60, e_X7_image_61, e_X7_image_62, in_0_1, jm_bd_v, jm_bd_0, bv1, if_false, if_true, not_false_eq_true, not_true_eq_false, if_neg hn]
theorem lp_X7_restore {q : Nat} {m : Nat → Nat → Int32} {y : Nat → Int32} (hq : q < 2) : ∀ (k c : Nat), c + k = 44 → jm_R 12 md_X7_restore 27 [.ref 217, .int (nI q), .int (nI c)] [] (jm_mk (wrA m 221 (cpk (fun t => m 228 (44 * q + t)) y c))) = some (some (.int (nI 1)), jm_mk (jm_up (wrA m 221 (cpk (fun t => m 228 (44 * q + t)) y 44)) 217 17 (nI 0))) := by
  intro k
  induction k with
  | zero =>
    intro c h
    have h1 : nI 44 ≤ nI c := nI_le (by omega) (by omega)
    rw [e_X7_restore_27]
    simp only [e_X7_restore_0, e_X7_restore_1, e_X7_restore_2, e_X7_restore_3, e_X7_restore_4, e_X7_restore_7, e_X7_restore_10, e_X7_restore_12, e_X7_restore_13, e_X7_restore_14, e_X7_restore_17, e_X7_restore_18, e_X7_restore_19, e_X7_restore_22, e_X7_restore_24, e_X7_restore_25, e_X7_restore_26, e_X7_restore_28, e_X7_restore_30, e_X7_restore_33, e_X7_restore_34, e_X7_restore_37, e_X7_restore_38, e_X7_restore_39, e_X7_restore_42, e_X7_restore_44, e_X7_restore_45, e_X7_restore_46, e_X7_restore_47, e_X7_restore_48, e_X7_restore_49, e_X7_restore_50, e_X7_restore_53, e_X7_restore_56, e_X7_restore_57, e_X7_restore_58, e_X7_restore_61, e_X7_restore_62, h1, if_true]
    rw [show c = 44 by omega]
  | succ k ih =>
    intro c h
    have h1 : ¬ nI 44 ≤ nI c := nI_ge (by omega) (by omega)
    have h2 : c < 44 := by omega
    have h3 : 44 * q + c < 88 := by omega
    have es := cpk_s (z := fun t => m 228 (44 * q + t)) (y := y) (c := c)
    rw [e_X7_restore_27]
    simp only [e_X7_restore_0, e_X7_restore_1, e_X7_restore_2, e_X7_restore_3, e_X7_restore_4, e_X7_restore_7, e_X7_restore_10, e_X7_restore_12, e_X7_restore_13, e_X7_restore_14, e_X7_restore_17, e_X7_restore_18, e_X7_restore_19, e_X7_restore_22, e_X7_restore_24, e_X7_restore_25, e_X7_restore_26, e_X7_restore_28, e_X7_restore_30, e_X7_restore_33, e_X7_restore_34, e_X7_restore_37, e_X7_restore_38, e_X7_restore_39, e_X7_restore_42, e_X7_restore_44, e_X7_restore_45, e_X7_restore_46, e_X7_restore_47, e_X7_restore_48, e_X7_restore_49, e_X7_restore_50, e_X7_restore_53, e_X7_restore_56, e_X7_restore_57, e_X7_restore_58, e_X7_restore_61, e_X7_restore_62, h1, if_false, nI_mulN, nI_add, h2, h3, wrA_ne (show (228 : Nat) ≠ 221 by decide), wrA_up]
    rw [es]
    exact ih (c + 1) (by omega)
theorem k_X0_forget {d : Nat} {m : Nat → Nat → Int32} : jm_K d md_X0_forget [.ref 15] (jm_mk m) = some (none, jm_mk (jm_up m 15 2 (nI 0))) := by
  show jm_R d md_X0_forget 0 [.ref 15] [] _ = _
  simp only [e_X0_forget_0, e_X0_forget_1, e_X0_forget_2, e_X0_forget_5]
/-- a new isle on both sides, and nothing kept -/
theorem Rel.fresh {m m2 x' : Nat → Nat → Int32} {y' : Nat → Int32} (hR : Rel m) (g' : GX x' y') (hth : m2 217 4 = nI 1) (o : ∀ a, a ≠ 13 → a ≠ 15 → ¬ (200 ≤ a ∧ a < 207) → ¬ (208 ≤ a ∧ a < 215) → a ≠ 217 → a ≠ 221 → a ≠ 224 → a ≠ 226 → m2 a = m a)
    (o7 : m2 217 3 = m 217 3 ∧ m2 217 22 = m 217 22) (o17 : m2 217 17 = nI 0) (p1 : m2 15 1 = m 15 1) (p2 : m2 15 2 = nI 0) (px : ∀ r, r < 7 → m2 (200 + r) = x' r) (py : ∀ j, j < 44 → m2 221 j = y' j) (h3 : R3 m2) : Rel m2 := by
  obtain ⟨g1, g2, g3, g4, g5, g6, g7⟩ := hR
  obtain ⟨e, k, he, hk, h15, h25, h17, hG⟩ := g5
  refine ⟨g1.c (fun a ha => o a (by omega) (by omega) (by omega) (by omega) (by omega) (by omega) (by omega) (by omega)), g2.c (by rw [o 0 (by decide) (by decide) (by decide) (by decide) (by decide) (by decide) (by decide) (by decide)]) o7.1, h3, Or.inr ⟨hth, g'.cg (fun r hr => px r hr) py⟩, ⟨e, 0, he, by decide, by rw [p1]; exact h15, p2, o17, fun i hi => absurd hi (by omega)⟩, fun k hk => ?_, g7.c (by rw [o 215 (by decide) (by decide) (by decide) (by decide) (by decide) (by decide) (by decide) (by decide)]) o7.2 (o 216 (by decide) (by decide) (by decide) (by decide) (by decide) (by decide) (by decide) (by decide)) (o 229 (by decide) (by decide) (by decide) (by decide) (by decide) (by decide) (by decide) (by decide))⟩
  have z1 : ∀ r, r < 7 → m2 (186 + 7 * k + r) = m (186 + 7 * k + r) := fun r hr => o _ (by omega) (by omega) (by omega) (by omega) (by omega) (by omega) (by omega) (by omega)
  have z0 := z1 0 (by decide)
  rw [Nat.add_zero] at z0
  rw [o 227 (by decide) (by decide) (by decide) (by decide) (by decide) (by decide) (by decide) (by decide), o 228 (by decide) (by decide) (by decide) (by decide) (by decide) (by decide) (by decide) (by decide), z0]
  rcases g6 k hk with w | ⟨w1, w2, w3⟩
  · exact Or.inl w
  · exact Or.inr ⟨w1, hth, w3.congrx (fun r hr => z1 r hr)⟩
theorem api_restore (n : Int32) : Api md_X6_restore md_X7_restore [.int n] := by
  intro m hR
  have hI : jm_ia 200 = true := by decide
  by_cases hn : ¬ n < nI 0 ∧ ¬ nI 1 < n
  · obtain ⟨q, -, hq1, rfl⟩ := rg_of hn (by omega) (by omega)
    have hq : q < 2 := by omega
    obtain ⟨i1, i2⟩ := ia_im q hq
    rcases hR.2.2.2.2.2.1 q hq with ⟨w1, w2⟩ | ⟨w1, w2, w3⟩
    · refine Api.bad hR (r := .int (-1000002)) ?_ ?_
      · show jm_R 12 md_X6_restore 0 [.ref 0, .int (nI q)] [] _ = _
        simp only [e_X6_restore_0, e_X6_restore_1, e_X6_restore_2, e_X6_restore_3, e_X6_restore_6, e_X6_restore_9, e_X6_restore_11, e_X6_restore_12, e_X6_restore_13, e_X6_restore_16, e_X6_restore_17, e_X6_restore_18, e_X6_restore_21, e_X6_restore_24, e_X6_restore_26, e_X6_restore_27, e_X6_restore_28, e_X6_restore_31, e_X6_restore_32, e_X6_restore_35, e_X6_restore_36, e_X6_restore_37, e_X6_restore_40, e_X6_restore_41, e_X6_restore_44, e_X6_restore_47, e_X6_restore_48, k_X6_within, jm_bd_v, jm_bd_0, bv1, if_false, if_true, not_false_eq_true, not_true_eq_false, if_pos hn, hq, i1, k_X2_stands i1, w1, nI_le (Nat.le_refl 0) (show 0 < 2 ^ 31 by decide)]
      · show jm_R 12 md_X7_restore 0 [.ref 217, .int (nI q), .null] [] _ = _
        simp only [e_X7_restore_0, e_X7_restore_1, e_X7_restore_2, e_X7_restore_3, e_X7_restore_4, e_X7_restore_7, e_X7_restore_10, e_X7_restore_12, e_X7_restore_13, e_X7_restore_14, e_X7_restore_17, e_X7_restore_18, e_X7_restore_19, e_X7_restore_22, e_X7_restore_24, e_X7_restore_25, e_X7_restore_26, e_X7_restore_28, e_X7_restore_30, e_X7_restore_33, e_X7_restore_34, e_X7_restore_37, e_X7_restore_38, e_X7_restore_39, e_X7_restore_42, e_X7_restore_44, e_X7_restore_45, e_X7_restore_46, e_X7_restore_47, e_X7_restore_48, e_X7_restore_49, e_X7_restore_50, e_X7_restore_53, e_X7_restore_56, e_X7_restore_57, e_X7_restore_58, e_X7_restore_61, e_X7_restore_62, in_0_1, jm_bd_v, jm_bd_0, bv1, if_false, if_true, not_false_eq_true, not_true_eq_false, if_pos hn, hq, w2]
    · obtain ⟨C, N, o, hv, hr⟩ := id w3
      have w6 : m (186 + 7 * q) 6 = nI N := (GX.all hv hr).2.2.1
      have hst := stN (show 0 < N from hv.2.1.2.1) hv.2.1.2.2
      have hb := k_X2_become (d := 10) (a := 200) (b := 186 + 7 * q) (m := m) hI i1 (fun h => i2 h.symm)
      generalize hM : jm_up (wrI m 200 (becI (vwI m 200) (vwI m (186 + 7 * q)))) 15 2 (nI 0) = M
      have ro : ∀ a, a ≠ 15 → ¬ (200 ≤ a ∧ a < 207) → M a = m a := fun a h1 h2 => by
        rw [← hM, jupr h1]
        funext j
        unfold wrI
        rw [if_neg h2]
      have hl := lp_X7_restore (m := M) (y := M 221) hq 44 0 rfl
      rw [cpk_0, wrA_self] at hl
      refine ⟨.int (nI 1), M, jm_up (wrA M 221 (cpk (fun t => M 228 (44 * q + t)) (M 221) 44)) 217 17 (nI 0), ?_, ?_, ?_⟩
      · show jm_R 12 md_X6_restore 0 [.ref 0, .int (nI q)] [] _ = _
        simp only [e_X6_restore_0, e_X6_restore_1, e_X6_restore_2, e_X6_restore_3, e_X6_restore_6, e_X6_restore_9, e_X6_restore_11, e_X6_restore_12, e_X6_restore_13, e_X6_restore_16, e_X6_restore_17, e_X6_restore_18, e_X6_restore_21, e_X6_restore_24, e_X6_restore_26, e_X6_restore_27, e_X6_restore_28, e_X6_restore_31, e_X6_restore_32, e_X6_restore_35, e_X6_restore_36, e_X6_restore_37, e_X6_restore_40, e_X6_restore_41, e_X6_restore_44, e_X6_restore_47, e_X6_restore_48, k_X6_within, jm_bd_v, jm_bd_0, bv1, if_false, if_true, not_false_eq_true, not_true_eq_false, if_pos hn, hq, i1, k_X2_stands i1, w6, hst, hb, k_X0_forget, hM]
      · show jm_R 12 md_X7_restore 0 [.ref 217, .int (nI q), .null] [] _ = _
        simp only [e_X7_restore_0, e_X7_restore_1, e_X7_restore_2, e_X7_restore_3, e_X7_restore_4, e_X7_restore_7, e_X7_restore_10, e_X7_restore_12, e_X7_restore_13, e_X7_restore_14, e_X7_restore_17, e_X7_restore_18, e_X7_restore_19, e_X7_restore_22, e_X7_restore_24, e_X7_restore_25, e_X7_restore_26, e_X7_restore_28, e_X7_restore_30, e_X7_restore_33, e_X7_restore_34, e_X7_restore_37, e_X7_restore_38, e_X7_restore_39, e_X7_restore_42, e_X7_restore_44, e_X7_restore_45, e_X7_restore_46, e_X7_restore_47, e_X7_restore_48, e_X7_restore_49, e_X7_restore_50, e_X7_restore_53, e_X7_restore_56, e_X7_restore_57, e_X7_restore_58, e_X7_restore_61, e_X7_restore_62, in_0_1, jm_bd_v, jm_bd_0, bv1, if_false, if_true, not_false_eq_true, not_true_eq_false, if_pos hn, hq, ro 227 (by decide) (by decide), w1]
        exact hl
      · have r2 : ∀ a, a ≠ 15 → ¬ (200 ≤ a ∧ a < 207) → a ≠ 217 → a ≠ 221 → jm_up (wrA M 221 (cpk (fun t => M 228 (44 * q + t)) (M 221) 44)) 217 17 (nI 0) a = m a := fun a h1 h2 h3 h4 => by rw [jupr h3, wrA_ne h4, ro a h1 h2]
        have r7 : ∀ j, j ≠ 17 → jm_up (wrA M 221 (cpk (fun t => M 228 (44 * q + t)) (M 221) 44)) 217 17 (nI 0) 217 j = m 217 j := fun j hj => by rw [jup_ne (fun h => hj h.2), wrA_ne (by decide), ro 217 (by decide) (by decide)]
        refine hR.fresh (GX.bec (w := vwI m 200) w3) (by rw [r7 4 (by decide)]; exact w2) (fun a h0 h1 h2 h3 h4 h5 h6 h7 => r2 a h1 h2 h4 h5) ⟨r7 3 (by decide), r7 22 (by decide)⟩ (by rw [jup_eq]) ?_ ?_ (fun r hr => ?_) (fun j hj => ?_) (hR.2.2.1.c (by rw [r2 13 (by decide) (by decide) (by decide) (by decide)]) (by rw [r2 13 (by decide) (by decide) (by decide) (by decide)]) (r7 8 (by decide)) (r7 9 (by decide)) (r2 14 (by decide) (by decide) (by decide) (by decide)) (r2 223 (by decide) (by decide) (by decide) (by decide)))
        · rw [jupr (by decide), wrA_ne (by decide), ← hM, jup_ne (by decide), wrI_ne15]
        · rw [jupr (by decide), wrA_ne (by decide), ← hM, jup_eq]
        · rw [jupr (by omega), wrA_ne (by omega), ← hM, jupr (by omega)]
          funext j
          rw [wrI_r r hr]
        · rw [jupr (by decide), wrA_at]
          show (if j < 44 then M 228 (44 * q + j) else M 221 j) = _
          rw [if_pos hj, ro 228 (by decide) (by decide)]
  · refine Api.bad hR (r := .int (-1000001)) ?_ ?_
    · show jm_R 12 md_X6_restore 0 [.ref 0, .int n] [] _ = _
      simp only [e_X6_restore_0, e_X6_restore_1, e_X6_restore_2, e_X6_restore_3, e_X6_restore_6, e_X6_restore_9, e_X6_restore_11, e_X6_restore_12, e_X6_restore_13, e_X6_restore_16, e_X6_restore_17, e_X6_restore_18, e_X6_restore_21, e_X6_restore_24, e_X6_restore_26, e_X6_restore_27, e_X6_restore_28, e_X6_restore_31, e_X6_restore_32, e_X6_restore_35, e_X6_restore_36, e_X6_restore_37, e_X6_restore_40, e_X6_restore_41, e_X6_restore_44, e_X6_restore_47, e_X6_restore_48, k_X6_within, jm_bd_v, jm_bd_0, bv1, if_false, if_true, not_false_eq_true, not_true_eq_false, if_neg hn]
    · show jm_R 12 md_X7_restore 0 [.ref 217, .int n, .null] [] _ = _
      simp only [e_X7_restore_0, e_X7_restore_1, e_X7_restore_2, e_X7_restore_3, e_X7_restore_4, e_X7_restore_7, e_X7_restore_10, e_X7_restore_12, e_X7_restore_13, e_X7_restore_14, e_X7_restore_17, e_X7_restore_18, e_X7_restore_19, e_X7_restore_22, e_X7_restore_24, e_X7_restore_25, e_X7_restore_26, e_X7_restore_28, e_X7_restore_30, e_X7_restore_33, e_X7_restore_34, e_X7_restore_37, e_X7_restore_38, e_X7_restore_39, e_X7_restore_42, e_X7_restore_44, e_X7_restore_45, e_X7_restore_46, e_X7_restore_47, e_X7_restore_48, e_X7_restore_49, e_X7_restore_50, e_X7_restore_53, e_X7_restore_56, e_X7_restore_57, e_X7_restore_58, e_X7_restore_61, e_X7_restore_62, in_0_1, jm_bd_v, jm_bd_0, bv1, if_false, if_true, not_false_eq_true, not_true_eq_false, if_neg hn]
