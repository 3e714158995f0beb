/-! row -/
def seg (b : Nat) (z f : Nat → Int32) (c : Nat) : Nat → Int32 := fun j => if b ≤ j ∧ j < b + c then z (j - b) else f j
theorem seg_0 {b : Nat} {z f : Nat → Int32} : seg b z f 0 = f := by
  funext j
  exact if_neg (by omega)
theorem seg_s {b c : Nat} {z f : Nat → Int32} : upd (seg b z f c) (b + c) (z c) = seg b z f (c + 1) := by
  funext j
  by_cases q : j = b + c
  · subst q
    rw [pk_us]
    unfold seg
    rw [if_pos (by omega), Nat.add_sub_cancel_left]
  · rw [pk_un q]
    unfold seg
    by_cases u : b ≤ j ∧ j < b + c
    · rw [if_pos u, if_pos (by omega)]
    · rw [if_neg u, if_neg (by omega)]
theorem seg_in {b c i : Nat} {z f : Nat → Int32} (h : i < c) : seg b z f c (b + i) = z i := by
  unfold seg
  rw [if_pos (by omega), Nat.add_sub_cancel_left]
theorem seg_out {b c j : Nat} {z f : Nat → Int32} (h : ¬ (b ≤ j ∧ j < b + c)) : seg b z f c j = f j := if_neg h
def zeroF : Nat → Int32 := fun _ => nI 0
theorem lp_X3_make {d r : Nat} {l2 l3 : Int32} {m : Nat → Nat → Int32} {f : Nat → Int32} (hr : r < 8) : ∀ (k c : Nat), c + k = 40 → jm_R d md_X3_make 17 [.ref 1, .int (nI r), .int l2, .int l3, .int (nI c)] [] (jm_mk (wrA m (3 + r) (cpk zeroF f c))) = some (none, jm_mk (wrA m (3 + r) (cpk zeroF f 40))) := by
  intro k
  induction k with
  | zero =>
    intro c h
    have h1 : nI 40 ≤ nI c := nI_le (by omega) (by omega)
    rw [e_X3_make_17]
    simp only [e_X3_make_0, e_X3_make_1, e_X3_make_4, e_X3_make_5, e_X3_make_6, e_X3_make_7, e_X3_make_8, e_X3_make_11, e_X3_make_12, e_X3_make_13, e_X3_make_14, e_X3_make_15, e_X3_make_19, e_X3_make_21, e_X3_make_24, e_X3_make_25, e_X3_make_28, e_X3_make_29, e_X3_make_30, e_X3_make_32, e_X3_make_34, e_X3_make_37, e_X3_make_40, h1, if_true]
    rw [show c = 40 by omega]
  | succ k ih =>
    intro c h
    have h1 : ¬ nI 40 ≤ nI c := nI_ge (by omega) (by omega)
    have es : upd (cpk zeroF f c) c (nI 0) = cpk zeroF f (c + 1) := cpk_s (z := zeroF)
    rw [e_X3_make_17]
    simp only [e_X3_make_0, e_X3_make_1, e_X3_make_4, e_X3_make_5, e_X3_make_6, e_X3_make_7, e_X3_make_8, e_X3_make_11, e_X3_make_12, e_X3_make_13, e_X3_make_14, e_X3_make_15, e_X3_make_19, e_X3_make_21, e_X3_make_24, e_X3_make_25, e_X3_make_28, e_X3_make_29, e_X3_make_30, e_X3_make_32, e_X3_make_34, e_X3_make_37, e_X3_make_40, h1, if_false, hr, e_X3_make_33 (q := 3 + r) (n := 40) (kd3 hr) (ln3 hr) (show c < 40 by omega) (by decide), wrA_up, es, nI_add, ih (c + 1) (show c + 1 + k = 40 by omega)]
theorem k_X3_make {d r : Nat} {l n : Int32} {m : Nat → Nat → Int32} (hr : r < 8) : jm_K d md_X3_make [.ref 1, .int (nI r), .int l, .int n] (jm_mk m) = some (none, jm_mk (wrA (jm_up (jm_up m 11 r l) 12 r n) (3 + r) (cpk zeroF (m (3 + r)) 40))) := by
  show jm_R d md_X3_make 0 [.ref 1, .int (nI r), .int l, .int n, .null] [] _ = _
  have hl := lp_X3_make (d := d) (l2 := l) (l3 := n) (m := jm_up (jm_up m 11 r l) 12 r n) (f := jm_up (jm_up m 11 r l) 12 r n (3 + r)) hr 40 0 rfl
  rw [cpk_0, wrA_self] at hl
  simp only [e_X3_make_0, e_X3_make_1, e_X3_make_4, e_X3_make_5, e_X3_make_6, e_X3_make_7, e_X3_make_8, e_X3_make_11, e_X3_make_12, e_X3_make_13, e_X3_make_14, e_X3_make_15, e_X3_make_19, e_X3_make_21, e_X3_make_24, e_X3_make_25, e_X3_make_28, e_X3_make_29, e_X3_make_30, e_X3_make_32, e_X3_make_34, e_X3_make_37, e_X3_make_40, hr]
  rw [hl, jupr (by omega), jupr (by omega)]
theorem lp_X7_row {r : Nat} {l2 : Int32} {n : Nat} {m : Nat → Nat → Int32} {f : Nat → Int32} (hr : r < 8) : ∀ (k c : Nat), c + k = 40 → jm_R 12 md_X7_row 55 [.ref 217, .int (nI r), .int l2, .int (nI n), .int (nI c)] [] (jm_mk (wrA m 220 (seg (40 * r) zeroF f c))) = some (some (.int (nI n)), jm_mk (jm_up (wrA m 220 (seg (40 * r) zeroF f 40)) 217 3 (nI 0))) := by
  intro k
  induction k with
  | zero =>
    intro c h
    have h1 : nI 40 ≤ nI c := nI_le (by omega) (by omega)
    rw [e_X7_row_55]
    simp only [e_X7_row_0, e_X7_row_1, e_X7_row_4, e_X7_row_7, e_X7_row_8, e_X7_row_9, e_X7_row_10, e_X7_row_13, e_X7_row_16, e_X7_row_19, e_X7_row_20, e_X7_row_22, e_X7_row_25, e_X7_row_27, e_X7_row_28, e_X7_row_29, e_X7_row_32, e_X7_row_33, e_X7_row_34, e_X7_row_37, e_X7_row_38, e_X7_row_39, e_X7_row_42, e_X7_row_43, e_X7_row_44, e_X7_row_45, e_X7_row_46, e_X7_row_49, e_X7_row_50, e_X7_row_51, e_X7_row_52, e_X7_row_53, e_X7_row_57, e_X7_row_59, e_X7_row_62, e_X7_row_63, e_X7_row_66, e_X7_row_68, e_X7_row_69, e_X7_row_70, e_X7_row_72, e_X7_row_73, e_X7_row_74, e_X7_row_75, e_X7_row_78, e_X7_row_81, e_X7_row_82, e_X7_row_83, e_X7_row_86, h1, if_true, k_X7_well, jm_bd_v]
    rw [show c = 40 by omega]
  | succ k ih =>
    intro c h
    have h1 : ¬ nI 40 ≤ nI c := nI_ge (by omega) (by omega)
    have es : upd (seg (40 * r) zeroF f c) (40 * r + c) (nI 0) = seg (40 * r) zeroF f (c + 1) := seg_s (z := zeroF)
    have h320 : 40 * r + c < 320 := by omega
    rw [e_X7_row_55]
    simp only [e_X7_row_0, e_X7_row_1, e_X7_row_4, e_X7_row_7, e_X7_row_8, e_X7_row_9, e_X7_row_10, e_X7_row_13, e_X7_row_16, e_X7_row_19, e_X7_row_20, e_X7_row_22, e_X7_row_25, e_X7_row_27, e_X7_row_28, e_X7_row_29, e_X7_row_32, e_X7_row_33, e_X7_row_34, e_X7_row_37, e_X7_row_38, e_X7_row_39, e_X7_row_42, e_X7_row_43, e_X7_row_44, e_X7_row_45, e_X7_row_46, e_X7_row_49, e_X7_row_50, e_X7_row_51, e_X7_row_52, e_X7_row_53, e_X7_row_57, e_X7_row_59, e_X7_row_62, e_X7_row_63, e_X7_row_66, e_X7_row_68, e_X7_row_69, e_X7_row_70, e_X7_row_72, e_X7_row_73, e_X7_row_74, e_X7_row_75, e_X7_row_78, e_X7_row_81, e_X7_row_82, e_X7_row_83, e_X7_row_86, h1, if_false, nI_mulN, nI_add, h320, wrA_up, es, ih (c + 1) (show c + 1 + k = 40 by omega)]
theorem api_row (r l n : Int32) : Api md_X6_row md_X7_row [.int r, .int l, .int n] := by
  intro m hR
  have hR1 := hR.1
  by_cases hr : ¬ r < nI 0 ∧ ¬ nI 7 < r
  · by_cases hl : ¬ l < nI 0 ∧ ¬ nI 2 < l
    · by_cases hn : nI 40 < n
      · have hn : ¬ n ≤ nI 40 := by
          rw [Int32.lt_iff_toInt_lt] at hn
          rw [Int32.le_iff_toInt_le]
          omega
        refine Api.bad hR (r := .int (-1000001)) ?_ ?_
        · show jm_R 12 md_X6_row 0 [.ref 0, .int r, .int l, .int n] [] _ = _
          simp only [e_X6_row_0, e_X6_row_1, e_X6_row_4, e_X6_row_7, e_X6_row_8, e_X6_row_9, e_X6_row_10, e_X6_row_13, e_X6_row_16, e_X6_row_17, e_X6_row_19, e_X6_row_22, e_X6_row_24, e_X6_row_25, e_X6_row_26, e_X6_row_29, e_X6_row_30, e_X6_row_31, e_X6_row_34, e_X6_row_35, e_X6_row_36, e_X6_row_39, e_X6_row_40, e_X6_row_41, e_X6_row_42, e_X6_row_45, e_X6_row_46, e_X6_row_47, e_X6_row_50, k_X3_isRow, k_X6_within, jm_bd_v, jm_bd_0, bv1, if_false, if_true, not_false_eq_true, not_true_eq_false, if_pos hr, if_pos hl, hn]
        · show jm_R 12 md_X7_row 0 [.ref 217, .int r, .int l, .int n, .null] [] _ = _
          simp only [e_X7_row_0, e_X7_row_1, e_X7_row_4, e_X7_row_7, e_X7_row_8, e_X7_row_9, e_X7_row_10, e_X7_row_13, e_X7_row_16, e_X7_row_19, e_X7_row_20, e_X7_row_22, e_X7_row_25, e_X7_row_27, e_X7_row_28, e_X7_row_29, e_X7_row_32, e_X7_row_33, e_X7_row_34, e_X7_row_37, e_X7_row_38, e_X7_row_39, e_X7_row_42, e_X7_row_43, e_X7_row_44, e_X7_row_45, e_X7_row_46, e_X7_row_49, e_X7_row_50, e_X7_row_51, e_X7_row_52, e_X7_row_53, e_X7_row_57, e_X7_row_59, e_X7_row_62, e_X7_row_63, e_X7_row_66, e_X7_row_68, e_X7_row_69, e_X7_row_70, e_X7_row_72, e_X7_row_73, e_X7_row_74, e_X7_row_75, e_X7_row_78, e_X7_row_81, e_X7_row_82, e_X7_row_83, e_X7_row_86, isRow7, in_0_2, jm_bd_v, jm_bd_0, bv1, if_false, if_true, not_false_eq_true, not_true_eq_false, if_pos hr, if_pos hl, hn]
      · have hn' : n ≤ nI 40 := by
          rw [Int32.lt_iff_toInt_lt] at hn
          rw [Int32.le_iff_toInt_le]
          omega
        by_cases h0 : n < nI 0
        · have h0' : ¬ nI 0 ≤ n := by rw [ge0]; exact fun h => h h0
          refine Api.fnd hR (nI 4) (r := .int (-1000010 - nI 4)) ?_ ?_
          · show jm_R 12 md_X6_row 0 [.ref 0, .int r, .int l, .int n] [] _ = _
            simp only [e_X6_row_0, e_X6_row_1, e_X6_row_4, e_X6_row_7, e_X6_row_8, e_X6_row_9, e_X6_row_10, e_X6_row_13, e_X6_row_16, e_X6_row_17, e_X6_row_19, e_X6_row_22, e_X6_row_24, e_X6_row_25, e_X6_row_26, e_X6_row_29, e_X6_row_30, e_X6_row_31, e_X6_row_34, e_X6_row_35, e_X6_row_36, e_X6_row_39, e_X6_row_40, e_X6_row_41, e_X6_row_42, e_X6_row_45, e_X6_row_46, e_X6_row_47, e_X6_row_50, k_X3_isRow, k_X6_within, jm_bd_v, jm_bd_0, bv1, if_false, if_true, not_false_eq_true, not_true_eq_false, if_pos hr, if_pos hl, hn', h0', k_X6_finding]
          · show jm_R 12 md_X7_row 0 [.ref 217, .int r, .int l, .int n, .null] [] _ = _
            simp only [e_X7_row_0, e_X7_row_1, e_X7_row_4, e_X7_row_7, e_X7_row_8, e_X7_row_9, e_X7_row_10, e_X7_row_13, e_X7_row_16, e_X7_row_19, e_X7_row_20, e_X7_row_22, e_X7_row_25, e_X7_row_27, e_X7_row_28, e_X7_row_29, e_X7_row_32, e_X7_row_33, e_X7_row_34, e_X7_row_37, e_X7_row_38, e_X7_row_39, e_X7_row_42, e_X7_row_43, e_X7_row_44, e_X7_row_45, e_X7_row_46, e_X7_row_49, e_X7_row_50, e_X7_row_51, e_X7_row_52, e_X7_row_53, e_X7_row_57, e_X7_row_59, e_X7_row_62, e_X7_row_63, e_X7_row_66, e_X7_row_68, e_X7_row_69, e_X7_row_70, e_X7_row_72, e_X7_row_73, e_X7_row_74, e_X7_row_75, e_X7_row_78, e_X7_row_81, e_X7_row_82, e_X7_row_83, e_X7_row_86, isRow7, in_0_2, jm_bd_v, jm_bd_0, bv1, if_false, if_true, not_false_eq_true, not_true_eq_false, if_pos hr, if_pos hl, hn', h0', k_X7_find]
        · have h0' : nI 0 ≤ n := by rw [ge0]; exact h0
          obtain ⟨r, h8, rfl⟩ := rowOf hr
          obtain ⟨q, -, hq, rfl⟩ := rg_of (lo := 0) (hi := 2) hl (by omega) (by omega)
          obtain ⟨n, -, hn40, rfl⟩ := rg_of (lo := 0) (hi := 40) ⟨h0, hn⟩ (by omega) (by omega)
          refine ⟨.int (nI n), jm_up (wrA (jm_up (jm_up m 11 r (nI q)) 12 r (nI n)) (3 + r) (cpk zeroF (m (3 + r)) 40)) 0 7 (nI 0), jm_up (wrA (jm_up (jm_up (jm_up (wrA (jm_up (jm_up m 11 r (nI q)) 12 r (nI n)) (3 + r) (cpk zeroF (m (3 + r)) 40)) 0 7 (nI 0)) 218 r (nI q)) 219 r (nI n)) 220 (seg (40 * r) zeroF (m 220) 40)) 217 3 (nI 0), ?_, ?_, ?_⟩
          · show jm_R 12 md_X6_row 0 [.ref 0, .int (nI r), .int (nI q), .int (nI n)] [] _ = _
            simp only [e_X6_row_0, e_X6_row_1, e_X6_row_4, e_X6_row_7, e_X6_row_8, e_X6_row_9, e_X6_row_10, e_X6_row_13, e_X6_row_16, e_X6_row_17, e_X6_row_19, e_X6_row_22, e_X6_row_24, e_X6_row_25, e_X6_row_26, e_X6_row_29, e_X6_row_30, e_X6_row_31, e_X6_row_34, e_X6_row_35, e_X6_row_36, e_X6_row_39, e_X6_row_40, e_X6_row_41, e_X6_row_42, e_X6_row_45, e_X6_row_46, e_X6_row_47, e_X6_row_50, k_X3_isRow, k_X6_within, jm_bd_v, jm_bd_0, bv1, if_false, if_true, not_false_eq_true, not_true_eq_false, if_pos hr, if_pos hl, hn', h0', k_X3_make h8, k_X6_fine]
          · show jm_R 12 md_X7_row 0 [.ref 217, .int (nI r), .int (nI q), .int (nI n), .null] [] _ = _
            simp only [e_X7_row_0, e_X7_row_1, e_X7_row_4, e_X7_row_7, e_X7_row_8, e_X7_row_9, e_X7_row_10, e_X7_row_13, e_X7_row_16, e_X7_row_19, e_X7_row_20, e_X7_row_22, e_X7_row_25, e_X7_row_27, e_X7_row_28, e_X7_row_29, e_X7_row_32, e_X7_row_33, e_X7_row_34, e_X7_row_37, e_X7_row_38, e_X7_row_39, e_X7_row_42, e_X7_row_43, e_X7_row_44, e_X7_row_45, e_X7_row_46, e_X7_row_49, e_X7_row_50, e_X7_row_51, e_X7_row_52, e_X7_row_53, e_X7_row_57, e_X7_row_59, e_X7_row_62, e_X7_row_63, e_X7_row_66, e_X7_row_68, e_X7_row_69, e_X7_row_70, e_X7_row_72, e_X7_row_73, e_X7_row_74, e_X7_row_75, e_X7_row_78, e_X7_row_81, e_X7_row_82, e_X7_row_83, e_X7_row_86, isRow7, in_0_2, jm_bd_v, jm_bd_0, bv1, if_false, if_true, not_false_eq_true, not_true_eq_false, if_pos hr, if_pos hl, hn', h0', h8]
            generalize hM : jm_up (jm_up (jm_up (wrA (jm_up (jm_up m 11 r (nI q)) 12 r (nI n)) (3 + r) (cpk zeroF (m (3 + r)) 40)) 0 7 (nI 0)) 218 r (nI q)) 219 r (nI n) = M
            have e := lp_X7_row (l2 := nI q) (n := n) (m := M) (f := M 220) h8 40 0 rfl
            rw [seg_0, wrA_self] at e
            rw [e]
            have e2 : M 220 = m 220 := by rw [← hM, jupr (by decide), jupr (by decide), jupr (by decide), wrA_ne (by omega), jupr (by decide), jupr (by decide)]
            rw [e2]
          · have sw : jm_up (wrA (jm_up (jm_up (jm_up (wrA (jm_up (jm_up m 11 r (nI q)) 12 r (nI n)) (3 + r) (cpk zeroF (m (3 + r)) 40)) 0 7 (nI 0)) 218 r (nI q)) 219 r (nI n)) 220 (seg (40 * r) zeroF (m 220) 40)) 217 3 (nI 0) = jm_up (jm_up (wrA (jm_up (jm_up (wrA (jm_up (jm_up m 11 r (nI q)) 12 r (nI n)) (3 + r) (cpk zeroF (m (3 + r)) 40)) 218 r (nI q)) 219 r (nI n)) 220 (seg (40 * r) zeroF (m 220) 40)) 0 7 (nI 0)) 217 3 (nI 0) := by
              congr 1
              funext a j
              unfold jm_up wrA
              by_cases z : a = 0
              · subst z; simp
              · simp [z]
            rw [sw]
            refine Rel.st (hR.rows (fun x hx => ?_) (fun r' hr' => ?_)) (nI 0)
            · rw [wrA_ne (by omega), jupr (by omega), jupr (by omega), wrA_ne (by omega), jupr (by omega), jupr (by omega)]
            · have s11 : wrA (jm_up (jm_up (wrA (jm_up (jm_up m 11 r (nI q)) 12 r (nI n)) (3 + r) (cpk zeroF (m (3 + r)) 40)) 218 r (nI q)) 219 r (nI n)) 220 (seg (40 * r) zeroF (m 220) 40) 11 = jm_up m 11 r (nI q) 11 := by rw [wrA_ne (by omega), jupr (by omega), jupr (by omega), wrA_ne (by omega), jupr (by omega)]
              have s12 : wrA (jm_up (jm_up (wrA (jm_up (jm_up m 11 r (nI q)) 12 r (nI n)) (3 + r) (cpk zeroF (m (3 + r)) 40)) 218 r (nI q)) 219 r (nI n)) 220 (seg (40 * r) zeroF (m 220) 40) 12 = jm_up (jm_up m 11 r (nI q)) 12 r (nI n) 12 := by rw [wrA_ne (by omega), jupr (by omega), jupr (by omega), wrA_ne (by omega)]
              have s218 : wrA (jm_up (jm_up (wrA (jm_up (jm_up m 11 r (nI q)) 12 r (nI n)) (3 + r) (cpk zeroF (m (3 + r)) 40)) 218 r (nI q)) 219 r (nI n)) 220 (seg (40 * r) zeroF (m 220) 40) 218 = jm_up (wrA (jm_up (jm_up m 11 r (nI q)) 12 r (nI n)) (3 + r) (cpk zeroF (m (3 + r)) 40)) 218 r (nI q) 218 := by rw [wrA_ne (by omega), jupr (by omega)]
              have s219 : wrA (jm_up (jm_up (wrA (jm_up (jm_up m 11 r (nI q)) 12 r (nI n)) (3 + r) (cpk zeroF (m (3 + r)) 40)) 218 r (nI q)) 219 r (nI n)) 220 (seg (40 * r) zeroF (m 220) 40) 219 = jm_up (jm_up (wrA (jm_up (jm_up m 11 r (nI q)) 12 r (nI n)) (3 + r) (cpk zeroF (m (3 + r)) 40)) 218 r (nI q)) 219 r (nI n) 219 := by rw [wrA_ne (by omega)]
              have s3 : wrA (jm_up (jm_up (wrA (jm_up (jm_up m 11 r (nI q)) 12 r (nI n)) (3 + r) (cpk zeroF (m (3 + r)) 40)) 218 r (nI q)) 219 r (nI n)) 220 (seg (40 * r) zeroF (m 220) 40) (3 + r') = wrA (jm_up (jm_up m 11 r (nI q)) 12 r (nI n)) (3 + r) (cpk zeroF (m (3 + r)) 40) (3 + r') := by rw [wrA_ne (by omega), jupr (by omega), jupr (by omega)]
              rw [s11, s12, s218, s219, s3, wrA_fn]
              by_cases z : r' = r
              · subst z
                rw [jup_eq, jup_eq, jup_eq, jup_eq, wrA_fn]
                refine Or.inr ⟨q, n, hq, hn40, rfl, rfl, rfl, rfl, fun i hi => ?_⟩
                rw [seg_in hi]
                show (if i < 40 then zeroF i else m (3 + r') i) = zeroF i
                rw [if_pos hi]
              · have t11 : jm_up m 11 r (nI q) 11 r' = m 11 r' := jup_ne (fun u => z u.2)
                have t12 : jm_up (jm_up m 11 r (nI q)) 12 r (nI n) 12 r' = m 12 r' := by rw [jup_ne (fun u => z u.2), jupr (by decide)]
                have t218 : jm_up (wrA (jm_up (jm_up m 11 r (nI q)) 12 r (nI n)) (3 + r) (cpk zeroF (m (3 + r)) 40)) 218 r (nI q) 218 r' = m 218 r' := by rw [jup_ne (fun u => z u.2), wrA_ne (by omega), jupr (by decide), jupr (by decide)]
                have t219 : jm_up (jm_up (wrA (jm_up (jm_up m 11 r (nI q)) 12 r (nI n)) (3 + r) (cpk zeroF (m (3 + r)) 40)) 218 r (nI q)) 219 r (nI n) 219 r' = m 219 r' := by rw [jup_ne (fun u => z u.2), jupr (by decide), wrA_ne (by omega), jupr (by decide), jupr (by decide)]
                have t3 : wrA (jm_up (jm_up m 11 r (nI q)) 12 r (nI n)) (3 + r) (cpk zeroF (m (3 + r)) 40) (3 + r') = m (3 + r') := by rw [wrA_ne (by omega), jupr (by omega), jupr (by omega)]
                rw [t11, t12, t218, t219, t3]
                rcases hR1 r' hr' with u | ⟨k', n', z1, z2, z3, z4, z5, z6, z7⟩
                · exact Or.inl u
                · refine Or.inr ⟨k', n', z1, z2, z3, z4, z5, z6, fun i' hi' => ?_⟩
                  rw [seg_out (by omega)]
                  exact z7 i' hi'
    · refine Api.bad hR (r := .int (-1000001)) ?_ ?_
      · show jm_R 12 md_X6_row 0 [.ref 0, .int r, .int l, .int n] [] _ = _
        simp only [e_X6_row_0, e_X6_row_1, e_X6_row_4, e_X6_row_7, e_X6_row_8, e_X6_row_9, e_X6_row_10, e_X6_row_13, e_X6_row_16, e_X6_row_17, e_X6_row_19, e_X6_row_22, e_X6_row_24, e_X6_row_25, e_X6_row_26, e_X6_row_29, e_X6_row_30, e_X6_row_31, e_X6_row_34, e_X6_row_35, e_X6_row_36, e_X6_row_39, e_X6_row_40, e_X6_row_41, e_X6_row_42, e_X6_row_45, e_X6_row_46, e_X6_row_47, e_X6_row_50, k_X3_isRow, k_X6_within, jm_bd_v, jm_bd_0, bv1, if_false, if_true, not_false_eq_true, not_true_eq_false, if_pos hr, if_neg hl]
      · show jm_R 12 md_X7_row 0 [.ref 217, .int r, .int l, .int n, .null] [] _ = _
        simp only [e_X7_row_0, e_X7_row_1, e_X7_row_4, e_X7_row_7, e_X7_row_8, e_X7_row_9, e_X7_row_10, e_X7_row_13, e_X7_row_16, e_X7_row_19, e_X7_row_20, e_X7_row_22, e_X7_row_25, e_X7_row_27, e_X7_row_28, e_X7_row_29, e_X7_row_32, e_X7_row_33, e_X7_row_34, e_X7_row_37, e_X7_row_38, e_X7_row_39, e_X7_row_42, e_X7_row_43, e_X7_row_44, e_X7_row_45, e_X7_row_46, e_X7_row_49, e_X7_row_50, e_X7_row_51, e_X7_row_52, e_X7_row_53, e_X7_row_57, e_X7_row_59, e_X7_row_62, e_X7_row_63, e_X7_row_66, e_X7_row_68, e_X7_row_69, e_X7_row_70, e_X7_row_72, e_X7_row_73, e_X7_row_74, e_X7_row_75, e_X7_row_78, e_X7_row_81, e_X7_row_82, e_X7_row_83, e_X7_row_86, isRow7, in_0_2, jm_bd_v, jm_bd_0, bv1, if_false, if_true, not_false_eq_true, not_true_eq_false, if_pos hr, if_neg hl]
  · refine Api.bad hR (r := .int (-1000001)) ?_ ?_
    · show jm_R 12 md_X6_row 0 [.ref 0, .int r, .int l, .int n] [] _ = _
      simp only [e_X6_row_0, e_X6_row_1, e_X6_row_4, e_X6_row_7, e_X6_row_8, e_X6_row_9, e_X6_row_10, e_X6_row_13, e_X6_row_16, e_X6_row_17, e_X6_row_19, e_X6_row_22, e_X6_row_24, e_X6_row_25, e_X6_row_26, e_X6_row_29, e_X6_row_30, e_X6_row_31, e_X6_row_34, e_X6_row_35, e_X6_row_36, e_X6_row_39, e_X6_row_40, e_X6_row_41, e_X6_row_42, e_X6_row_45, e_X6_row_46, e_X6_row_47, e_X6_row_50, k_X3_isRow, jm_bd_v, jm_bd_0, bv1, if_false, if_true, not_false_eq_true, not_true_eq_false, if_neg hr]
    · show jm_R 12 md_X7_row 0 [.ref 217, .int r, .int l, .int n, .null] [] _ = _
      simp only [e_X7_row_0, e_X7_row_1, e_X7_row_4, e_X7_row_7, e_X7_row_8, e_X7_row_9, e_X7_row_10, e_X7_row_13, e_X7_row_16, e_X7_row_19, e_X7_row_20, e_X7_row_22, e_X7_row_25, e_X7_row_27, e_X7_row_28, e_X7_row_29, e_X7_row_32, e_X7_row_33, e_X7_row_34, e_X7_row_37, e_X7_row_38, e_X7_row_39, e_X7_row_42, e_X7_row_43, e_X7_row_44, e_X7_row_45, e_X7_row_46, e_X7_row_49, e_X7_row_50, e_X7_row_51, e_X7_row_52, e_X7_row_53, e_X7_row_57, e_X7_row_59, e_X7_row_62, e_X7_row_63, e_X7_row_66, e_X7_row_68, e_X7_row_69, e_X7_row_70, e_X7_row_72, e_X7_row_73, e_X7_row_74, e_X7_row_75, e_X7_row_78, e_X7_row_81, e_X7_row_82, e_X7_row_83, e_X7_row_86, isRow7, jm_bd_v, jm_bd_0, bv1, if_false, if_true, not_false_eq_true, not_true_eq_false, if_neg hr]
