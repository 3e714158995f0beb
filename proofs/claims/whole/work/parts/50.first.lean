/-! first, latest, winds -/
def foI : Nat → (Nat → Nat → Int32) → Nat → Nat → Int32
  | 0, x => x
  | k + 1, x => if x 0 4 = -1 then foI k (pasS x) else x
def foM : Nat → (Nat → Int32) → Nat → Int32
  | 0, y => y
  | k + 1, y => if y 7 = -1 then foM k (ohS y) else y
theorem foI_s {k : Nat} {x : Nat → Nat → Int32} : foI (k + 1) x = if x 0 4 = -1 then foI k (pasS x) else x := rfl
theorem foM_s {k : Nat} {y : Nat → Int32} : foM (k + 1) y = if y 7 = -1 then foM k (ohS y) else y := rfl
theorem GN.fo {C N : Nat} : ∀ (k : Nat) {x : Nat → Nat → Int32} {y : Nat → Int32}, GN C N x y → GN C N (foI k x) (foM k y)
  | 0, x, y, g => g
  | k + 1, x, y, g => by
    rw [foI_s, foM_s, g.owner.1]
    by_cases q : y 7 = -1
    · rw [if_pos q, if_pos q]; exact GN.fo k g.step
    · rw [if_neg q, if_neg q]; exact g
theorem lp_X4_first {d n C N : Nat} {m : Nat → Nat → Int32} (hn : n < 1000) : ∀ (k c : Nat) (x : Nat → Nat → Int32) (y : Nat → Int32), GN C N x y → c + k = n → jm_R (d + 3) md_X4_firstOwner 13 [.ref 207, .int (nI n), .int (nI c)] [] (jm_mk (wrI m 208 x)) = some (some (.int (foI k x 0 4)), jm_mk (wrI m 208 (foI k x))) := by
  have ha : jm_ia 208 = true := by decide
  intro k
  induction k with
  | zero =>
    intro c x y g h
    have h1 : nI n ≤ nI c := nI_le (by omega) (by omega)
    rw [e_X4_firstOwner_13]
    simp only [e_X4_firstOwner_0, e_X4_firstOwner_1, e_X4_firstOwner_4, e_X4_firstOwner_5, e_X4_firstOwner_8, e_X4_firstOwner_11, e_X4_firstOwner_12, e_X4_firstOwner_14, e_X4_firstOwner_15, e_X4_firstOwner_18, e_X4_firstOwner_19, e_X4_firstOwner_22, e_X4_firstOwner_25, e_X4_firstOwner_26, e_X4_firstOwner_29, e_X4_firstOwner_30, e_X4_firstOwner_33, e_X4_firstOwner_36, e_X4_firstOwner_39, e_X4_firstOwner_42, e_X4_firstOwner_43, e_X4_firstOwner_46, e_X4_firstOwner_49, h1, if_true, ha, wrI_0]
    rfl
  | succ k ih =>
    intro c x y g h
    have h1 : ¬ nI n ≤ nI c := nI_ge (by omega) (by omega)
    have i1 := ih (c + 1) (pasS x) (ohS y) g.step (by omega)
    rw [e_X4_firstOwner_13, foI_s]
    by_cases q : x 0 4 = -1
    · simp only [e_X4_firstOwner_0, e_X4_firstOwner_1, e_X4_firstOwner_4, e_X4_firstOwner_5, e_X4_firstOwner_8, e_X4_firstOwner_11, e_X4_firstOwner_12, e_X4_firstOwner_14, e_X4_firstOwner_15, e_X4_firstOwner_18, e_X4_firstOwner_19, e_X4_firstOwner_22, e_X4_firstOwner_25, e_X4_firstOwner_26, e_X4_firstOwner_29, e_X4_firstOwner_30, e_X4_firstOwner_33, e_X4_firstOwner_36, e_X4_firstOwner_39, e_X4_firstOwner_42, e_X4_firstOwner_43, e_X4_firstOwner_46, e_X4_firstOwner_49, h1, if_false, ha, wrI_0, q, not_true_eq_false, if_true, p_X2_pass ha g.gx, jm_bd_0, nI_add, i1]
    · simp only [e_X4_firstOwner_0, e_X4_firstOwner_1, e_X4_firstOwner_4, e_X4_firstOwner_5, e_X4_firstOwner_8, e_X4_firstOwner_11, e_X4_firstOwner_12, e_X4_firstOwner_14, e_X4_firstOwner_15, e_X4_firstOwner_18, e_X4_firstOwner_19, e_X4_firstOwner_22, e_X4_firstOwner_25, e_X4_firstOwner_26, e_X4_firstOwner_29, e_X4_firstOwner_30, e_X4_firstOwner_33, e_X4_firstOwner_36, e_X4_firstOwner_39, e_X4_firstOwner_42, e_X4_firstOwner_43, e_X4_firstOwner_46, e_X4_firstOwner_49, h1, if_false, ha, wrI_0, q, not_false_eq_true, if_true]
theorem k_X4_first {d n C N : Nat} {m x : Nat → Nat → Int32} {y : Nat → Int32} (hn : n < 1000) (g : GN C N (vwI m 200) y) : jm_K (d + 3) md_X4_firstOwner [.ref 207, .int (nI n)] (jm_mk (wrI m 208 x)) = some (some (.int (foM n y 7)), jm_mk (wrI m 208 (foI n (becI x (vwI m 200))))) := by
  show jm_R (d + 3) md_X4_firstOwner 0 [.ref 207, .int (nI n), .null] [] _ = _
  have hl := lp_X4_first (d := d) (m := m) hn n 0 (becI x (vwI m 200)) y g.bec (by omega)
  simp only [e_X4_firstOwner_0, e_X4_firstOwner_1, e_X4_firstOwner_4, e_X4_firstOwner_5, e_X4_firstOwner_8, e_X4_firstOwner_11, e_X4_firstOwner_12, e_X4_firstOwner_14, e_X4_firstOwner_15, e_X4_firstOwner_18, e_X4_firstOwner_19, e_X4_firstOwner_22, e_X4_firstOwner_25, e_X4_firstOwner_26, e_X4_firstOwner_29, e_X4_firstOwner_30, e_X4_firstOwner_33, e_X4_firstOwner_36, e_X4_firstOwner_39, e_X4_firstOwner_42, e_X4_firstOwner_43, e_X4_firstOwner_46, e_X4_firstOwner_49, k_bec, jm_bd_0, hl]
  rw [((g.bec (w := x)).fo n).owner.1]
theorem ge0 {v : Int32} : (nI 0 ≤ v) = ¬ v < nI 0 := by
  apply propext
  rw [Int32.le_iff_toInt_le, Int32.lt_iff_toInt_lt]
  omega
theorem GN.own_lt {C N : Nat} {x : Nat → Nat → Int32} {y : Nat → Int32} (g : GN C N x y) : (y 7 < nI 0) = (y 7 = -1) := by
  obtain ⟨-, o, e, h⟩ := g.owner
  rw [e]
  exact ov_lt h g.N6
theorem g_ownerNow {d C N : Nat} {x m : Nat → Nat → Int32} {y : Nat → Int32} (g : GN C N x y) : jm_K d md_X7_ownerNow [.ref 217] (jm_mk (wrA m 221 y)) = some (some (.int (if y 7 = -1 then -1000000 else y 7)), jm_mk (wrA m 221 y)) := by
  obtain ⟨-, o, e, h⟩ := g.owner
  rw [q_ownerNow (o := o) (N := N) (by rw [wrA_at]; exact e) h g.N6, e]
theorem lp_X7_first {n C N : Nat} {m : Nat → Nat → Int32} {z : Nat → Int32} (hn : n < 1000) : ∀ (k c : Nat) (x : Nat → Nat → Int32) (y : Nat → Int32), GN C N x y → c + k = n → jm_R 12 md_X7_first 31 [.ref 217, .int (nI n), .int (nI c)] [] (jm_mk (wrA (wrA m 226 z) 221 y)) = some (some (.int (if foM k y 7 = -1 then -1000000 else foM k y 7)), jm_mk (wrA (wrA m 226 z) 221 (cp44 z (foM k y)))) := by
  intro k
  induction k with
  | zero =>
    intro c x y g h
    have h1 : nI n ≤ nI c := nI_le (by omega) (by omega)
    rw [e_X7_first_31]
    simp only [e_X7_first_0, e_X7_first_1, e_X7_first_4, e_X7_first_7, e_X7_first_9, e_X7_first_10, e_X7_first_11, e_X7_first_12, e_X7_first_13, e_X7_first_16, e_X7_first_19, e_X7_first_22, e_X7_first_24, e_X7_first_25, e_X7_first_26, e_X7_first_29, e_X7_first_30, e_X7_first_32, e_X7_first_33, e_X7_first_36, e_X7_first_37, e_X7_first_40, e_X7_first_42, e_X7_first_43, e_X7_first_46, e_X7_first_47, e_X7_first_50, e_X7_first_53, e_X7_first_56, e_X7_first_57, e_X7_first_60, e_X7_first_61, e_X7_first_62, e_X7_first_65, e_X7_first_66, h1, if_true, g_ownerNow g, jm_bd_v, jm_bd_0, k_X7_takeBack]
    rfl
  | succ k ih =>
    intro c x y g h
    have h1 : ¬ nI n ≤ nI c := nI_ge (by omega) (by omega)
    have i1 := ih (c + 1) (pasS x) (ohS y) g.step (by omega)
    rw [e_X7_first_31, foM_s]
    have ho := g.own_lt
    by_cases q : y 7 = -1
    · have hq : ¬ nI 0 ≤ y 7 := by rw [ge0, ho]; exact fun h => h q
      simp only [e_X7_first_0, e_X7_first_1, e_X7_first_4, e_X7_first_7, e_X7_first_9, e_X7_first_10, e_X7_first_11, e_X7_first_12, e_X7_first_13, e_X7_first_16, e_X7_first_19, e_X7_first_22, e_X7_first_24, e_X7_first_25, e_X7_first_26, e_X7_first_29, e_X7_first_30, e_X7_first_32, e_X7_first_33, e_X7_first_36, e_X7_first_37, e_X7_first_40, e_X7_first_42, e_X7_first_43, e_X7_first_46, e_X7_first_47, e_X7_first_50, e_X7_first_53, e_X7_first_56, e_X7_first_57, e_X7_first_60, e_X7_first_61, e_X7_first_62, e_X7_first_65, e_X7_first_66, h1, if_false, show (7 : Nat) < 44 by decide, wrA_at, hq, if_pos q, p_X7_oneHour g.gx.y, jm_bd_0, nI_add, i1]
    · have hq : nI 0 ≤ y 7 := by rw [ge0, ho]; exact q
      simp only [e_X7_first_0, e_X7_first_1, e_X7_first_4, e_X7_first_7, e_X7_first_9, e_X7_first_10, e_X7_first_11, e_X7_first_12, e_X7_first_13, e_X7_first_16, e_X7_first_19, e_X7_first_22, e_X7_first_24, e_X7_first_25, e_X7_first_26, e_X7_first_29, e_X7_first_30, e_X7_first_32, e_X7_first_33, e_X7_first_36, e_X7_first_37, e_X7_first_40, e_X7_first_42, e_X7_first_43, e_X7_first_46, e_X7_first_47, e_X7_first_50, e_X7_first_53, e_X7_first_56, e_X7_first_57, e_X7_first_60, e_X7_first_61, e_X7_first_62, e_X7_first_65, e_X7_first_66, h1, if_false, show (7 : Nat) < 44 by decide, wrA_at, hq, if_neg q, if_true, g_ownerNow g, jm_bd_v, jm_bd_0, k_X7_takeBack]
theorem api_first (n : Int32) : Api md_X6_first md_X7_first [.int n] := by
  refine Api.try (fun m hR => ?_)
  obtain ⟨C, N, hC6, hN6, c6, m4, c5, m3, hcase⟩ := hR.isle
  have hI : jm_ia 200 = true := by decide
  rcases hcase with ⟨q0, q1, q2⟩ | ⟨q0, q2, g⟩
  · subst q0
    refine Api.no (r := .int (-1000002)) ?_ (fun m' h7 h1 => ?_)
    · show jm_R 12 md_X6_first 0 [.ref 0, .int n] [] _ = _
      simp only [e_X6_first_0, e_X6_first_1, e_X6_first_4, e_X6_first_7, e_X6_first_10, e_X6_first_12, e_X6_first_13, e_X6_first_14, e_X6_first_15, e_X6_first_17, e_X6_first_20, e_X6_first_23, e_X6_first_25, e_X6_first_26, e_X6_first_27, e_X6_first_30, e_X6_first_31, e_X6_first_34, e_X6_first_37, k_X2_hasBoat hI, k_X2_stands hI, k_X2_hasCell hI, c6, c5, k_X6_within, jm_bd_v, jm_bd_0, bv1, if_false, if_true, not_false_eq_true, not_true_eq_false, nI_le (Nat.le_refl 0) (show 0 < 2 ^ 31 by decide)]
    · show jm_R 12 md_X7_first 0 [.ref 217, .int n, .null] [] _ = _
      simp only [e_X7_first_0, e_X7_first_1, e_X7_first_4, e_X7_first_7, e_X7_first_9, e_X7_first_10, e_X7_first_11, e_X7_first_12, e_X7_first_13, e_X7_first_16, e_X7_first_19, e_X7_first_22, e_X7_first_24, e_X7_first_25, e_X7_first_26, e_X7_first_29, e_X7_first_30, e_X7_first_32, e_X7_first_33, e_X7_first_36, e_X7_first_37, e_X7_first_40, e_X7_first_42, e_X7_first_43, e_X7_first_46, e_X7_first_47, e_X7_first_50, e_X7_first_53, e_X7_first_56, e_X7_first_57, e_X7_first_60, e_X7_first_61, e_X7_first_62, e_X7_first_65, e_X7_first_66, h7, q2, k_X7_isBoat m4 hN6, k_X7_isCell m3 hC6, in_0_60, in_1_60, in_1_40, in_0_1, in_1_24, in_0_3, in_1_9, in_0_2, in_1_12, in_0_10, in_1_999999, in_0_5, in_0_255, k_X7_isRow, k_X7_isWhat, jm_bd_v, jm_bd_0, bv1, if_false, if_true, not_false_eq_true, not_true_eq_false]
  · have hst := stN q0 hN6
    have hth := thereOf q2
    by_cases hn : ¬ n < nI 1 ∧ ¬ nI 60 < n
    · obtain ⟨k, -, hk, rfl⟩ := rg_of hn (by omega) (by omega)
      have hc := k_X4_first (d := 8) (m := m) (x := vwI m 208) (n := k) (by omega) g
      rw [wrI_self] at hc
      refine ⟨.int (if foM k (m 221) 7 = -1 then -1000000 else foM k (m 221) 7), foI k (becI (vwI m 208) (vwI m 200)), ?_, fun m1 hm => ⟨cp44 (m 221) (m 226), cp44 (cp44 (m 221) (m 226)) (foM k (m 221)), ?_, fun j hj => by rw [cp44_lt hj, cp44_lt hj]⟩⟩
      · show jm_R 12 md_X6_first 0 [.ref 0, .int (nI k)] [] _ = _
        simp only [e_X6_first_0, e_X6_first_1, e_X6_first_4, e_X6_first_7, e_X6_first_10, e_X6_first_12, e_X6_first_13, e_X6_first_14, e_X6_first_15, e_X6_first_17, e_X6_first_20, e_X6_first_23, e_X6_first_25, e_X6_first_26, e_X6_first_27, e_X6_first_30, e_X6_first_31, e_X6_first_34, e_X6_first_37, k_X2_hasBoat hI, k_X2_stands hI, k_X2_hasCell hI, c6, c5, k_X6_within, jm_bd_v, jm_bd_0, bv1, if_false, if_true, not_false_eq_true, not_true_eq_false, hst, if_pos hn, hc, k_X6_boatOrNone]
      · show jm_R 12 md_X7_first 0 [.ref 217, .int (nI k), .null] [] _ = _
        have e2 : wrA (wrA m1 226 (m 226)) 221 (m 221) 217 4 = m 217 4 := by rw [wrA_ne (by decide), wrA_ne (by decide), hm 217 (by decide)]
        simp only [e_X7_first_0, e_X7_first_1, e_X7_first_4, e_X7_first_7, e_X7_first_9, e_X7_first_10, e_X7_first_11, e_X7_first_12, e_X7_first_13, e_X7_first_16, e_X7_first_19, e_X7_first_22, e_X7_first_24, e_X7_first_25, e_X7_first_26, e_X7_first_29, e_X7_first_30, e_X7_first_32, e_X7_first_33, e_X7_first_36, e_X7_first_37, e_X7_first_40, e_X7_first_42, e_X7_first_43, e_X7_first_46, e_X7_first_47, e_X7_first_50, e_X7_first_53, e_X7_first_56, e_X7_first_57, e_X7_first_60, e_X7_first_61, e_X7_first_62, e_X7_first_65, e_X7_first_66, k_X7_isBoat m4 hN6, k_X7_isCell m3 hC6, in_0_60, in_1_60, in_1_40, in_0_1, in_1_24, in_0_3, in_1_9, in_0_2, in_1_12, in_0_10, in_1_999999, in_0_5, in_0_255, k_X7_isRow, k_X7_isWhat, jm_bd_v, jm_bd_0, bv1, if_false, if_true, not_false_eq_true, not_true_eq_false, e2, hth, if_pos hn, k_X7_putAside]
        exact lp_X7_first (by omega) k 0 (vwI m 200) (m 221) g (by omega)
    · refine Api.no (r := .int (-1000001)) ?_ (fun m' h7 h1 => ?_)
      · show jm_R 12 md_X6_first 0 [.ref 0, .int n] [] _ = _
        simp only [e_X6_first_0, e_X6_first_1, e_X6_first_4, e_X6_first_7, e_X6_first_10, e_X6_first_12, e_X6_first_13, e_X6_first_14, e_X6_first_15, e_X6_first_17, e_X6_first_20, e_X6_first_23, e_X6_first_25, e_X6_first_26, e_X6_first_27, e_X6_first_30, e_X6_first_31, e_X6_first_34, e_X6_first_37, k_X2_hasBoat hI, k_X2_stands hI, k_X2_hasCell hI, c6, c5, k_X6_within, jm_bd_v, jm_bd_0, bv1, if_false, if_true, not_false_eq_true, not_true_eq_false, hst, if_neg hn]
      · show jm_R 12 md_X7_first 0 [.ref 217, .int n, .null] [] _ = _
        simp only [e_X7_first_0, e_X7_first_1, e_X7_first_4, e_X7_first_7, e_X7_first_9, e_X7_first_10, e_X7_first_11, e_X7_first_12, e_X7_first_13, e_X7_first_16, e_X7_first_19, e_X7_first_22, e_X7_first_24, e_X7_first_25, e_X7_first_26, e_X7_first_29, e_X7_first_30, e_X7_first_32, e_X7_first_33, e_X7_first_36, e_X7_first_37, e_X7_first_40, e_X7_first_42, e_X7_first_43, e_X7_first_46, e_X7_first_47, e_X7_first_50, e_X7_first_53, e_X7_first_56, e_X7_first_57, e_X7_first_60, e_X7_first_61, e_X7_first_62, e_X7_first_65, e_X7_first_66, k_X7_isBoat m4 hN6, k_X7_isCell m3 hC6, in_0_60, in_1_60, in_1_40, in_0_1, in_1_24, in_0_3, in_1_9, in_0_2, in_1_12, in_0_10, in_1_999999, in_0_5, in_0_255, k_X7_isRow, k_X7_isWhat, jm_bd_v, jm_bd_0, bv1, if_false, if_true, not_false_eq_true, not_true_eq_false, h7, hth, if_neg hn]
/-! latest -/
def bitS (j : Nat) : Int32 := nI 1 <<< (nI j &&& 31)
def lvM (y : Nat → Int32) (j w n : Nat) : Int32 := ohN (upd (ohN y w) 6 (ohN y w 6 ||| (nI 1 <<< (nI j &&& 31)))) (n - w) 7
def lvI (x : Nat → Nat → Int32) (j w n : Nat) : Int32 := pasN (jm_up (pasN x w) 0 7 (pasN x w 0 7 ||| (nI 1 <<< (nI j &&& 31)))) (n - w) 0 4
theorem GN.lv {C N : Nat} {x : Nat → Nat → Int32} {y : Nat → Int32} (g : GN C N x y) {j : Nat} (hj : j < N) (w n : Nat) : lvI x j w n = lvM y j w n := ((g.steps w).orb hj).own (n - w)
theorem k_X4_owns {d C N n w j : Nat} {m x : Nat → Nat → Int32} {y : Nat → Int32} (hn : n < 1000) (hw : w ≤ n) (hj : j < N) (g : GN C N (vwI m 200) y) : ∃ x', jm_K (d + 4) md_X4_ownsIfSentBehind [.ref 207, .int (nI j), .int (nI w), .int (nI n)] (jm_mk (wrI m 208 x)) = some (some (.int (if lvM y j w n = nI j then nI 1 else nI 0)), jm_mk (wrI m 208 x')) := by
  have ha : jm_ia 208 = true := by decide
  have gb := g.bec (w := x)
  have g1 := (gb.steps w).orb hj
  have h1 := k_X2_passAll (d := d) (m := m) (n := w) ha (by omega) gb.gx
  have h2 := k_X2_passAll (d := d) (m := m) (n := n - w) ha (by omega) g1.gx
  have e := gb.lv hj w n
  unfold lvI at e
  refine ⟨pasN (jm_up (pasN (becI x (vwI m 200)) w) 0 7 (pasN (becI x (vwI m 200)) w 0 7 ||| (nI 1 <<< (nI j &&& 31)))) (n - w), ?_⟩
  show jm_R (d + 4) md_X4_ownsIfSentBehind 0 [.ref 207, .int (nI j), .int (nI w), .int (nI n)] [] _ = _
  simp only [e_X4_ownsIfSentBehind_0, e_X4_ownsIfSentBehind_1, e_X4_ownsIfSentBehind_4, e_X4_ownsIfSentBehind_5, e_X4_ownsIfSentBehind_8, e_X4_ownsIfSentBehind_11, e_X4_ownsIfSentBehind_12, e_X4_ownsIfSentBehind_15, e_X4_ownsIfSentBehind_16, e_X4_ownsIfSentBehind_19, e_X4_ownsIfSentBehind_20, e_X4_ownsIfSentBehind_23, e_X4_ownsIfSentBehind_24, e_X4_ownsIfSentBehind_27, e_X4_ownsIfSentBehind_28, e_X4_ownsIfSentBehind_29, e_X4_ownsIfSentBehind_30, e_X4_ownsIfSentBehind_31, e_X4_ownsIfSentBehind_34, e_X4_ownsIfSentBehind_35, e_X4_ownsIfSentBehind_38, e_X4_ownsIfSentBehind_39, e_X4_ownsIfSentBehind_40, e_X4_ownsIfSentBehind_41, e_X4_ownsIfSentBehind_44, e_X4_ownsIfSentBehind_45, e_X4_ownsIfSentBehind_48, e_X4_ownsIfSentBehind_51, e_X4_ownsIfSentBehind_52, e_X4_ownsIfSentBehind_55, e_X4_ownsIfSentBehind_56, e_X4_ownsIfSentBehind_59, e_X4_ownsIfSentBehind_60, k_bec, jm_bd_0, h1, ha, wrI_0, wrI_u0, nI_subN hw (show n < 1000000 by omega), h2, e, true_or, or_true]
  by_cases q : lvM y j w n = nI j
  · simp only [if_pos q, if_neg (fun h : ¬ lvM y j w n = nI j => h q)]
  · simp only [if_neg q, if_pos q]
def wI : Nat → Int32
  | 0 => -1
  | k + 1 => nI k
def ltL (p : Nat → Int32) (j : Nat) : Nat → Int32
  | 0 => -1000000
  | k + 1 => if p k = nI j then nI k else ltL p j k
theorem ltL_s {p : Nat → Int32} {j k : Nat} : ltL p j (k + 1) = if p k = nI j then nI k else ltL p j k := rfl
theorem wI_s {k : Nat} (h : k < 1000) : nI k + (-1) = wI k := by
  cases k with
  | zero => rfl
  | succ k => exact nI_dec (by omega)
theorem lp_X6_latest {C N n j : Nat} {m : Nat → Nat → Int32} {y : Nat → Int32} (hn : n < 1000) (hj : j < N) (g : GN C N (vwI m 200) y) : ∀ (k : Nat) (x : Nat → Nat → Int32), k ≤ n → ∃ x', jm_R 12 md_X6_latest 42 [.ref 0, .int (nI j), .int (nI n), .int (wI k)] [] (jm_mk (wrI m 208 x)) = some (some (.int (ltL (fun w => lvM y j w n) j k)), jm_mk (wrI m 208 x')) := by
  intro k
  induction k with
  | zero =>
    intro x h
    refine ⟨x, ?_⟩
    have h1 : wI 0 < nI 0 := by decide
    rw [e_X6_latest_42]
    simp only [e_X6_latest_0, e_X6_latest_1, e_X6_latest_4, e_X6_latest_5, e_X6_latest_8, e_X6_latest_11, e_X6_latest_12, e_X6_latest_13, e_X6_latest_15, e_X6_latest_18, e_X6_latest_21, e_X6_latest_23, e_X6_latest_24, e_X6_latest_25, e_X6_latest_28, e_X6_latest_29, e_X6_latest_32, e_X6_latest_35, e_X6_latest_37, e_X6_latest_38, e_X6_latest_39, e_X6_latest_40, e_X6_latest_41, e_X6_latest_43, e_X6_latest_46, e_X6_latest_47, e_X6_latest_50, e_X6_latest_51, e_X6_latest_52, e_X6_latest_53, e_X6_latest_56, e_X6_latest_59, e_X6_latest_60, e_X6_latest_61, e_X6_latest_64, e_X6_latest_67, e_X6_latest_69, h1, if_true]
    rfl
  | succ k ih =>
    intro x h
    obtain ⟨x1, e1⟩ := k_X4_owns (d := 7) (m := m) (x := x) (n := n) (w := k) (j := j) hn (by omega) hj g
    obtain ⟨x2, e2⟩ := ih x1 (by omega)
    have h1 : ¬ nI k < nI 0 := nI_nlt0 (by omega)
    rw [ltL_s]
    by_cases q : lvM y j k n = nI j
    · refine ⟨x1, ?_⟩
      rw [e_X6_latest_42]
      simp only [e_X6_latest_0, e_X6_latest_1, e_X6_latest_4, e_X6_latest_5, e_X6_latest_8, e_X6_latest_11, e_X6_latest_12, e_X6_latest_13, e_X6_latest_15, e_X6_latest_18, e_X6_latest_21, e_X6_latest_23, e_X6_latest_24, e_X6_latest_25, e_X6_latest_28, e_X6_latest_29, e_X6_latest_32, e_X6_latest_35, e_X6_latest_37, e_X6_latest_38, e_X6_latest_39, e_X6_latest_40, e_X6_latest_41, e_X6_latest_43, e_X6_latest_46, e_X6_latest_47, e_X6_latest_50, e_X6_latest_51, e_X6_latest_52, e_X6_latest_53, e_X6_latest_56, e_X6_latest_59, e_X6_latest_60, e_X6_latest_61, e_X6_latest_64, e_X6_latest_67, e_X6_latest_69, wI, h1, if_false, e1, jm_bd_v, if_pos q, bv1]
    · refine ⟨x2, ?_⟩
      rw [e_X6_latest_42]
      simp only [e_X6_latest_0, e_X6_latest_1, e_X6_latest_4, e_X6_latest_5, e_X6_latest_8, e_X6_latest_11, e_X6_latest_12, e_X6_latest_13, e_X6_latest_15, e_X6_latest_18, e_X6_latest_21, e_X6_latest_23, e_X6_latest_24, e_X6_latest_25, e_X6_latest_28, e_X6_latest_29, e_X6_latest_32, e_X6_latest_35, e_X6_latest_37, e_X6_latest_38, e_X6_latest_39, e_X6_latest_40, e_X6_latest_41, e_X6_latest_43, e_X6_latest_46, e_X6_latest_47, e_X6_latest_50, e_X6_latest_51, e_X6_latest_52, e_X6_latest_53, e_X6_latest_56, e_X6_latest_59, e_X6_latest_60, e_X6_latest_61, e_X6_latest_64, e_X6_latest_67, e_X6_latest_69, wI, h1, if_false, e1, jm_bd_v, if_neg q, if_true, wI_s (show k < 1000 by omega)]
      exact e2
theorem lp_X7_latest {C N n j : Nat} {m x : Nat → Nat → Int32} {z : Nat → Int32} (hn : n < 1000) (hj : j < N) (g : GN C N x z) : ∀ (k : Nat) (y : Nat → Int32), (∀ i, i < 44 → y i = z i) → k ≤ n → ∃ y', jm_R 12 md_X7_latest 52 [.ref 217, .int (nI j), .int (nI n), .int (-1000000), .int (wI k)] [] (jm_mk (wrA (wrA m 226 z) 221 y)) = some (some (.int (ltL (fun w => lvM z j w n) j k)), jm_mk (wrA (wrA m 226 z) 221 y')) ∧ ∀ i, i < 44 → y' i = z i := by
  intro k
  induction k with
  | zero =>
    intro y hy h
    refine ⟨y, ?_, hy⟩
    have h1 : wI 0 < nI 0 := by decide
    rw [e_X7_latest_52]
    simp only [e_X7_latest_0, e_X7_latest_1, e_X7_latest_2, e_X7_latest_5, e_X7_latest_8, e_X7_latest_9, e_X7_latest_10, e_X7_latest_11, e_X7_latest_14, e_X7_latest_17, e_X7_latest_20, e_X7_latest_22, e_X7_latest_23, e_X7_latest_24, e_X7_latest_27, e_X7_latest_29, e_X7_latest_30, e_X7_latest_31, e_X7_latest_34, e_X7_latest_37, e_X7_latest_39, e_X7_latest_40, e_X7_latest_41, e_X7_latest_44, e_X7_latest_46, e_X7_latest_47, e_X7_latest_48, e_X7_latest_49, e_X7_latest_50, e_X7_latest_54, e_X7_latest_57, e_X7_latest_58, e_X7_latest_61, e_X7_latest_62, e_X7_latest_64, e_X7_latest_67, e_X7_latest_68, e_X7_latest_71, e_X7_latest_73, e_X7_latest_74, e_X7_latest_75, e_X7_latest_76, e_X7_latest_77, e_X7_latest_78, e_X7_latest_79, e_X7_latest_80, e_X7_latest_81, e_X7_latest_82, e_X7_latest_84, e_X7_latest_85, e_X7_latest_88, e_X7_latest_89, e_X7_latest_92, e_X7_latest_94, e_X7_latest_97, e_X7_latest_98, e_X7_latest_99, e_X7_latest_102, e_X7_latest_105, e_X7_latest_106, h1, if_true]
    rfl
  | succ k ih =>
    intro y hy h
    have gy := g.congr hy
    have h1 : ¬ nI k < nI 0 := nI_nlt0 (by omega)
    have h2 : ¬ nI 0 ≤ (-1000000 : Int32) := by decide
    have h3 := k_X7_goOn (d := 7) (m := wrA m 226 z) (y := y) (n := k) (by omega) gy.gx.y
    have h4 := k_X7_ownerBy (d := 6) (m := m) (z := z) (y := upd (ohN y k) 6 (ohN y k 6 ||| (nI 1 <<< (nI j &&& 31)))) (n := n - k) (by omega) ((gy.steps k).orb hj).gx.y
    have h5 : lvM y j k n = lvM z j k n := (gy.lv hj k n).symm.trans (g.lv hj k n)
    unfold lvM at h5
    rw [h5] at h4
    obtain ⟨y2, e2, e3⟩ := ih (cp44 z (ohN (upd (ohN y k) 6 (ohN y k 6 ||| (nI 1 <<< (nI j &&& 31)))) (n - k))) (fun i hi => cp44_lt hi) (by omega)
    rw [ltL_s]
    have h6 := nI_subN (n := n) (k := k) (by omega) (by omega)
    by_cases q : lvM z j k n = nI j
    · refine ⟨cp44 z (ohN (upd (ohN y k) 6 (ohN y k 6 ||| (nI 1 <<< (nI j &&& 31)))) (n - k)), ?_, fun i hi => cp44_lt hi⟩
      have q' := q
      unfold lvM at q'
      rw [if_pos q, e_X7_latest_52]
      simp only [e_X7_latest_0, e_X7_latest_1, e_X7_latest_2, e_X7_latest_5, e_X7_latest_8, e_X7_latest_9, e_X7_latest_10, e_X7_latest_11, e_X7_latest_14, e_X7_latest_17, e_X7_latest_20, e_X7_latest_22, e_X7_latest_23, e_X7_latest_24, e_X7_latest_27, e_X7_latest_29, e_X7_latest_30, e_X7_latest_31, e_X7_latest_34, e_X7_latest_37, e_X7_latest_39, e_X7_latest_40, e_X7_latest_41, e_X7_latest_44, e_X7_latest_46, e_X7_latest_47, e_X7_latest_48, e_X7_latest_49, e_X7_latest_50, e_X7_latest_54, e_X7_latest_57, e_X7_latest_58, e_X7_latest_61, e_X7_latest_62, e_X7_latest_64, e_X7_latest_67, e_X7_latest_68, e_X7_latest_71, e_X7_latest_73, e_X7_latest_74, e_X7_latest_75, e_X7_latest_76, e_X7_latest_77, e_X7_latest_78, e_X7_latest_79, e_X7_latest_80, e_X7_latest_81, e_X7_latest_82, e_X7_latest_84, e_X7_latest_85, e_X7_latest_88, e_X7_latest_89, e_X7_latest_92, e_X7_latest_94, e_X7_latest_97, e_X7_latest_98, e_X7_latest_99, e_X7_latest_102, e_X7_latest_105, e_X7_latest_106, wI, h1, h2, if_false, h3, jm_bd_0, show (6 : Nat) < 44 by decide, wrA_at, wrA_up, h6, h4, jm_bd_v, q', not_true_eq_false]
      rw [e_X7_latest_52]
      have h7 : nI 0 ≤ nI k := nI_le (Nat.zero_le _) (by omega)
      simp only [e_X7_latest_0, e_X7_latest_1, e_X7_latest_2, e_X7_latest_5, e_X7_latest_8, e_X7_latest_9, e_X7_latest_10, e_X7_latest_11, e_X7_latest_14, e_X7_latest_17, e_X7_latest_20, e_X7_latest_22, e_X7_latest_23, e_X7_latest_24, e_X7_latest_27, e_X7_latest_29, e_X7_latest_30, e_X7_latest_31, e_X7_latest_34, e_X7_latest_37, e_X7_latest_39, e_X7_latest_40, e_X7_latest_41, e_X7_latest_44, e_X7_latest_46, e_X7_latest_47, e_X7_latest_48, e_X7_latest_49, e_X7_latest_50, e_X7_latest_54, e_X7_latest_57, e_X7_latest_58, e_X7_latest_61, e_X7_latest_62, e_X7_latest_64, e_X7_latest_67, e_X7_latest_68, e_X7_latest_71, e_X7_latest_73, e_X7_latest_74, e_X7_latest_75, e_X7_latest_76, e_X7_latest_77, e_X7_latest_78, e_X7_latest_79, e_X7_latest_80, e_X7_latest_81, e_X7_latest_82, e_X7_latest_84, e_X7_latest_85, e_X7_latest_88, e_X7_latest_89, e_X7_latest_92, e_X7_latest_94, e_X7_latest_97, e_X7_latest_98, e_X7_latest_99, e_X7_latest_102, e_X7_latest_105, e_X7_latest_106, h7, if_true]
      by_cases q8 : nI k + (-1) < nI 0
      · rw [if_pos q8]
      · rw [if_neg q8]
    · refine ⟨y2, ?_, e3⟩
      have q' := q
      unfold lvM at q'
      rw [if_neg q, e_X7_latest_52]
      simp only [e_X7_latest_0, e_X7_latest_1, e_X7_latest_2, e_X7_latest_5, e_X7_latest_8, e_X7_latest_9, e_X7_latest_10, e_X7_latest_11, e_X7_latest_14, e_X7_latest_17, e_X7_latest_20, e_X7_latest_22, e_X7_latest_23, e_X7_latest_24, e_X7_latest_27, e_X7_latest_29, e_X7_latest_30, e_X7_latest_31, e_X7_latest_34, e_X7_latest_37, e_X7_latest_39, e_X7_latest_40, e_X7_latest_41, e_X7_latest_44, e_X7_latest_46, e_X7_latest_47, e_X7_latest_48, e_X7_latest_49, e_X7_latest_50, e_X7_latest_54, e_X7_latest_57, e_X7_latest_58, e_X7_latest_61, e_X7_latest_62, e_X7_latest_64, e_X7_latest_67, e_X7_latest_68, e_X7_latest_71, e_X7_latest_73, e_X7_latest_74, e_X7_latest_75, e_X7_latest_76, e_X7_latest_77, e_X7_latest_78, e_X7_latest_79, e_X7_latest_80, e_X7_latest_81, e_X7_latest_82, e_X7_latest_84, e_X7_latest_85, e_X7_latest_88, e_X7_latest_89, e_X7_latest_92, e_X7_latest_94, e_X7_latest_97, e_X7_latest_98, e_X7_latest_99, e_X7_latest_102, e_X7_latest_105, e_X7_latest_106, wI, h1, h2, if_false, h3, jm_bd_0, show (6 : Nat) < 44 by decide, wrA_at, wrA_up, h6, h4, jm_bd_v, q', not_false_eq_true, if_true, wI_s (show k < 1000 by omega)]
      exact e2
theorem sent_eq {C N : Nat} {x : Nat → Nat → Int32} {y : Nat → Int32} (g : GN C N x y) : x 0 7 = y 6 := by
  obtain ⟨s, -, h1, h2⟩ := g.sent
  rw [h1, h2]
theorem api_latest (b n : Int32) : Api md_X6_latest md_X7_latest [.int b, .int n] := by
  refine Api.try (fun m hR => ?_)
  obtain ⟨C, N, hC6, hN6, c6, m4, c5, m3, hcase⟩ := hR.isle
  have hI : jm_ia 200 = true := by decide
  by_cases hb : ¬ b < nI 0 ∧ ¬ nI N ≤ b
  · by_cases hn : ¬ n < nI 1 ∧ ¬ nI 40 < n
    · obtain ⟨j, hj, rfl⟩ := ix_of hb (by omega)
      obtain ⟨k, hk1, hk, rfl⟩ := rg_of hn (by omega) (by omega)
      rcases hcase with ⟨q, -⟩ | ⟨-, q2, g⟩
      · omega
      have hs : m 200 7 = m 221 6 := sent_eq g
      by_cases q : (m 221 6 >>> (nI j &&& 31)) &&& nI 1 = nI 1
      · refine Api.no (r := .int (-1000002)) ?_ (fun m' h7 h1 => ?_)
        · show jm_R 12 md_X6_latest 0 [.ref 0, .int (nI j), .int (nI k), .null] [] _ = _
          simp only [e_X6_latest_0, e_X6_latest_1, e_X6_latest_4, e_X6_latest_5, e_X6_latest_8, e_X6_latest_11, e_X6_latest_12, e_X6_latest_13, e_X6_latest_15, e_X6_latest_18, e_X6_latest_21, e_X6_latest_23, e_X6_latest_24, e_X6_latest_25, e_X6_latest_28, e_X6_latest_29, e_X6_latest_32, e_X6_latest_35, e_X6_latest_37, e_X6_latest_38, e_X6_latest_39, e_X6_latest_40, e_X6_latest_41, e_X6_latest_43, e_X6_latest_46, e_X6_latest_47, e_X6_latest_50, e_X6_latest_51, e_X6_latest_52, e_X6_latest_53, e_X6_latest_56, e_X6_latest_59, e_X6_latest_60, e_X6_latest_61, e_X6_latest_64, e_X6_latest_67, e_X6_latest_69, k_X2_hasBoat hI, k_X2_stands hI, k_X2_hasCell hI, c6, c5, k_X6_within, jm_bd_v, jm_bd_0, bv1, if_false, if_true, not_false_eq_true, not_true_eq_false, if_pos hb, if_pos hn, k_X2_isSent hI, hs, if_pos q]
        · show jm_R 12 md_X7_latest 0 [.ref 217, .int (nI j), .int (nI k), .null, .null] [] _ = _
          have m4' : m' 221 4 = nI N := by rw [h1]; exact m4
          simp only [e_X7_latest_0, e_X7_latest_1, e_X7_latest_2, e_X7_latest_5, e_X7_latest_8, e_X7_latest_9, e_X7_latest_10, e_X7_latest_11, e_X7_latest_14, e_X7_latest_17, e_X7_latest_20, e_X7_latest_22, e_X7_latest_23, e_X7_latest_24, e_X7_latest_27, e_X7_latest_29, e_X7_latest_30, e_X7_latest_31, e_X7_latest_34, e_X7_latest_37, e_X7_latest_39, e_X7_latest_40, e_X7_latest_41, e_X7_latest_44, e_X7_latest_46, e_X7_latest_47, e_X7_latest_48, e_X7_latest_49, e_X7_latest_50, e_X7_latest_54, e_X7_latest_57, e_X7_latest_58, e_X7_latest_61, e_X7_latest_62, e_X7_latest_64, e_X7_latest_67, e_X7_latest_68, e_X7_latest_71, e_X7_latest_73, e_X7_latest_74, e_X7_latest_75, e_X7_latest_76, e_X7_latest_77, e_X7_latest_78, e_X7_latest_79, e_X7_latest_80, e_X7_latest_81, e_X7_latest_82, e_X7_latest_84, e_X7_latest_85, e_X7_latest_88, e_X7_latest_89, e_X7_latest_92, e_X7_latest_94, e_X7_latest_97, e_X7_latest_98, e_X7_latest_99, e_X7_latest_102, e_X7_latest_105, e_X7_latest_106, k_X7_isBoat m4' hN6, in_1_40, jm_bd_v, jm_bd_0, bv1, if_false, if_true, not_false_eq_true, not_true_eq_false, if_pos hb, if_pos hn, k_X7_has, show (6 : Nat) < 44 by decide, h1, if_pos q]
      · obtain ⟨x1, e1⟩ := lp_X6_latest (m := m) (n := k) (j := j) (by omega) hj g k (vwI m 208) (by omega)
        rw [wrI_self] at e1
        have ew : nI k - nI 1 = wI k := by
          obtain ⟨k', rfl⟩ : ∃ k', k = k' + 1 := ⟨k - 1, by omega⟩
          exact nI_subN (by omega) (by omega)
        have gz : GN C N (vwI m 200) (cp44 (m 221) (m 226)) := g.congr (fun i hi => cp44_lt hi)
        refine ⟨.int (ltL (fun w => lvM (m 221) j w k) j k), x1, ?_, fun m1 hm => ?_⟩
        · show jm_R 12 md_X6_latest 0 [.ref 0, .int (nI j), .int (nI k), .null] [] _ = _
          simp only [e_X6_latest_0, e_X6_latest_1, e_X6_latest_4, e_X6_latest_5, e_X6_latest_8, e_X6_latest_11, e_X6_latest_12, e_X6_latest_13, e_X6_latest_15, e_X6_latest_18, e_X6_latest_21, e_X6_latest_23, e_X6_latest_24, e_X6_latest_25, e_X6_latest_28, e_X6_latest_29, e_X6_latest_32, e_X6_latest_35, e_X6_latest_37, e_X6_latest_38, e_X6_latest_39, e_X6_latest_40, e_X6_latest_41, e_X6_latest_43, e_X6_latest_46, e_X6_latest_47, e_X6_latest_50, e_X6_latest_51, e_X6_latest_52, e_X6_latest_53, e_X6_latest_56, e_X6_latest_59, e_X6_latest_60, e_X6_latest_61, e_X6_latest_64, e_X6_latest_67, e_X6_latest_69, k_X2_hasBoat hI, k_X2_stands hI, k_X2_hasCell hI, c6, c5, k_X6_within, jm_bd_v, jm_bd_0, bv1, if_false, if_true, not_false_eq_true, not_true_eq_false, if_pos hb, if_pos hn, k_X2_isSent hI, hs, if_neg q, ew]
          exact e1
        · obtain ⟨y2, e2, e3⟩ := lp_X7_latest (m := m1) (n := k) (j := j) (by omega) hj gz k (m 221) (fun i hi => (cp44_lt hi).symm) (by omega)
          refine ⟨cp44 (m 221) (m 226), y2, ?_, fun i hi => by rw [e3 i hi, cp44_lt hi]⟩
          have e5 := k_X7_isBoat (d := 10) (m := wrA (wrA m1 226 (m 226)) 221 (m 221)) (b := nI j) (by rw [wrA_at]; exact m4) hN6
          have e6 : (fun w => lvM (cp44 (m 221) (m 226)) j w k) = fun w => lvM (m 221) j w k := by
            funext w
            exact (gz.lv hj w k).symm.trans (g.lv hj w k)
          rw [e6] at e2
          show jm_R 12 md_X7_latest 0 [.ref 217, .int (nI j), .int (nI k), .null, .null] [] _ = _
          simp only [e_X7_latest_0, e_X7_latest_1, e_X7_latest_2, e_X7_latest_5, e_X7_latest_8, e_X7_latest_9, e_X7_latest_10, e_X7_latest_11, e_X7_latest_14, e_X7_latest_17, e_X7_latest_20, e_X7_latest_22, e_X7_latest_23, e_X7_latest_24, e_X7_latest_27, e_X7_latest_29, e_X7_latest_30, e_X7_latest_31, e_X7_latest_34, e_X7_latest_37, e_X7_latest_39, e_X7_latest_40, e_X7_latest_41, e_X7_latest_44, e_X7_latest_46, e_X7_latest_47, e_X7_latest_48, e_X7_latest_49, e_X7_latest_50, e_X7_latest_54, e_X7_latest_57, e_X7_latest_58, e_X7_latest_61, e_X7_latest_62, e_X7_latest_64, e_X7_latest_67, e_X7_latest_68, e_X7_latest_71, e_X7_latest_73, e_X7_latest_74, e_X7_latest_75, e_X7_latest_76, e_X7_latest_77, e_X7_latest_78, e_X7_latest_79, e_X7_latest_80, e_X7_latest_81, e_X7_latest_82, e_X7_latest_84, e_X7_latest_85, e_X7_latest_88, e_X7_latest_89, e_X7_latest_92, e_X7_latest_94, e_X7_latest_97, e_X7_latest_98, e_X7_latest_99, e_X7_latest_102, e_X7_latest_105, e_X7_latest_106, e5, in_1_40, jm_bd_v, jm_bd_0, bv1, if_false, if_true, not_false_eq_true, not_true_eq_false, if_pos hb, if_pos hn, k_X7_has, show (6 : Nat) < 44 by decide, wrA_at, if_neg q, k_X7_putAside, ew]
          exact e2
    · refine Api.no (r := .int (-1000001)) ?_ (fun m' h7 h1 => ?_)
      · show jm_R 12 md_X6_latest 0 [.ref 0, .int b, .int n, .null] [] _ = _
        simp only [e_X6_latest_0, e_X6_latest_1, e_X6_latest_4, e_X6_latest_5, e_X6_latest_8, e_X6_latest_11, e_X6_latest_12, e_X6_latest_13, e_X6_latest_15, e_X6_latest_18, e_X6_latest_21, e_X6_latest_23, e_X6_latest_24, e_X6_latest_25, e_X6_latest_28, e_X6_latest_29, e_X6_latest_32, e_X6_latest_35, e_X6_latest_37, e_X6_latest_38, e_X6_latest_39, e_X6_latest_40, e_X6_latest_41, e_X6_latest_43, e_X6_latest_46, e_X6_latest_47, e_X6_latest_50, e_X6_latest_51, e_X6_latest_52, e_X6_latest_53, e_X6_latest_56, e_X6_latest_59, e_X6_latest_60, e_X6_latest_61, e_X6_latest_64, e_X6_latest_67, e_X6_latest_69, k_X2_hasBoat hI, k_X2_stands hI, k_X2_hasCell hI, c6, c5, k_X6_within, jm_bd_v, jm_bd_0, bv1, if_false, if_true, not_false_eq_true, not_true_eq_false, if_pos hb, if_neg hn]
      · show jm_R 12 md_X7_latest 0 [.ref 217, .int b, .int n, .null, .null] [] _ = _
        have m4' : m' 221 4 = nI N := by rw [h1]; exact m4
        simp only [e_X7_latest_0, e_X7_latest_1, e_X7_latest_2, e_X7_latest_5, e_X7_latest_8, e_X7_latest_9, e_X7_latest_10, e_X7_latest_11, e_X7_latest_14, e_X7_latest_17, e_X7_latest_20, e_X7_latest_22, e_X7_latest_23, e_X7_latest_24, e_X7_latest_27, e_X7_latest_29, e_X7_latest_30, e_X7_latest_31, e_X7_latest_34, e_X7_latest_37, e_X7_latest_39, e_X7_latest_40, e_X7_latest_41, e_X7_latest_44, e_X7_latest_46, e_X7_latest_47, e_X7_latest_48, e_X7_latest_49, e_X7_latest_50, e_X7_latest_54, e_X7_latest_57, e_X7_latest_58, e_X7_latest_61, e_X7_latest_62, e_X7_latest_64, e_X7_latest_67, e_X7_latest_68, e_X7_latest_71, e_X7_latest_73, e_X7_latest_74, e_X7_latest_75, e_X7_latest_76, e_X7_latest_77, e_X7_latest_78, e_X7_latest_79, e_X7_latest_80, e_X7_latest_81, e_X7_latest_82, e_X7_latest_84, e_X7_latest_85, e_X7_latest_88, e_X7_latest_89, e_X7_latest_92, e_X7_latest_94, e_X7_latest_97, e_X7_latest_98, e_X7_latest_99, e_X7_latest_102, e_X7_latest_105, e_X7_latest_106, k_X7_isBoat m4' hN6, in_1_40, jm_bd_v, jm_bd_0, bv1, if_false, if_true, not_false_eq_true, not_true_eq_false, if_pos hb, if_neg hn]
  · refine Api.no (r := .int (-1000001)) ?_ (fun m' h7 h1 => ?_)
    · show jm_R 12 md_X6_latest 0 [.ref 0, .int b, .int n, .null] [] _ = _
      simp only [e_X6_latest_0, e_X6_latest_1, e_X6_latest_4, e_X6_latest_5, e_X6_latest_8, e_X6_latest_11, e_X6_latest_12, e_X6_latest_13, e_X6_latest_15, e_X6_latest_18, e_X6_latest_21, e_X6_latest_23, e_X6_latest_24, e_X6_latest_25, e_X6_latest_28, e_X6_latest_29, e_X6_latest_32, e_X6_latest_35, e_X6_latest_37, e_X6_latest_38, e_X6_latest_39, e_X6_latest_40, e_X6_latest_41, e_X6_latest_43, e_X6_latest_46, e_X6_latest_47, e_X6_latest_50, e_X6_latest_51, e_X6_latest_52, e_X6_latest_53, e_X6_latest_56, e_X6_latest_59, e_X6_latest_60, e_X6_latest_61, e_X6_latest_64, e_X6_latest_67, e_X6_latest_69, k_X2_hasBoat hI, k_X2_stands hI, k_X2_hasCell hI, c6, c5, k_X6_within, jm_bd_v, jm_bd_0, bv1, if_false, if_true, not_false_eq_true, not_true_eq_false, if_neg hb]
    · show jm_R 12 md_X7_latest 0 [.ref 217, .int b, .int n, .null, .null] [] _ = _
      have m4' : m' 221 4 = nI N := by rw [h1]; exact m4
      simp only [e_X7_latest_0, e_X7_latest_1, e_X7_latest_2, e_X7_latest_5, e_X7_latest_8, e_X7_latest_9, e_X7_latest_10, e_X7_latest_11, e_X7_latest_14, e_X7_latest_17, e_X7_latest_20, e_X7_latest_22, e_X7_latest_23, e_X7_latest_24, e_X7_latest_27, e_X7_latest_29, e_X7_latest_30, e_X7_latest_31, e_X7_latest_34, e_X7_latest_37, e_X7_latest_39, e_X7_latest_40, e_X7_latest_41, e_X7_latest_44, e_X7_latest_46, e_X7_latest_47, e_X7_latest_48, e_X7_latest_49, e_X7_latest_50, e_X7_latest_54, e_X7_latest_57, e_X7_latest_58, e_X7_latest_61, e_X7_latest_62, e_X7_latest_64, e_X7_latest_67, e_X7_latest_68, e_X7_latest_71, e_X7_latest_73, e_X7_latest_74, e_X7_latest_75, e_X7_latest_76, e_X7_latest_77, e_X7_latest_78, e_X7_latest_79, e_X7_latest_80, e_X7_latest_81, e_X7_latest_82, e_X7_latest_84, e_X7_latest_85, e_X7_latest_88, e_X7_latest_89, e_X7_latest_92, e_X7_latest_94, e_X7_latest_97, e_X7_latest_98, e_X7_latest_99, e_X7_latest_102, e_X7_latest_105, e_X7_latest_106, k_X7_isBoat m4' hN6, jm_bd_v, jm_bd_0, bv1, if_false, if_true, not_false_eq_true, not_true_eq_false, if_neg hb]
