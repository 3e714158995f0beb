/-! ask: the reference, and both -/
section UN
variable {d j : Nat} {m : Nat → Nat → Int32} {L : List Int32}
theorem u221 : uL m L 221 = m 221 := gL_o (by decide) (by decide)
theorem ul_10 (hj : j < 6) (hL : L.length ≤ 15) : jm_K (d + 1) md_X7_lent [.ref 217, .int (nI j), .int (nI 10)] (jm_mk (uL m L)) = some (some (.int (m 221 (26 + j))), jm_mk (uL m (L ++ [nI 10]))) := by
  show jm_R (d + 1) md_X7_lent 0 [.ref 217, .int (nI j), .int (nI 10)] [] _ = _
  have h14 : 14 + j < 44 := by omega
  have h26 : 26 + j < 44 := by omega
  have h32 : 32 + j < 44 := by omega
  have a0 := k_begin (d := d) (m := m) (L := L) (v := nI 10) (by have := hL; simp; omega)
  simp only [e_X7_lent_0, e_X7_lent_1, e_X7_lent_2, e_X7_lent_5, e_X7_lent_6, e_X7_lent_8, e_X7_lent_11, e_X7_lent_12, e_X7_lent_15, e_X7_lent_17, e_X7_lent_18, e_X7_lent_19, e_X7_lent_20, e_X7_lent_23, e_X7_lent_24, a0, jm_bd_v, jm_bd_0, nI_add, h14, h26, h32, u221, show ¬ nI 1 = nI 2 by decide, show ¬ nI 1 = nI 3 by decide, show ¬ nI 3 = nI 2 by decide, show ¬ nI 4 = nI 1 by decide, show ¬ nI 4 = nI 2 by decide, show ¬ nI 4 = nI 3 by decide, show ¬ nI 5 = nI 1 by decide, show ¬ nI 5 = nI 2 by decide, show ¬ nI 5 = nI 3 by decide, show ¬ nI 4 = nI 5 by decide, show nI 1 < nI 4 by decide, show nI 3 < nI 4 by decide, show ¬ nI 4 < nI 4 by decide, show ¬ nI 5 < nI 4 by decide, show ¬ nI 20 = nI 10 by decide, if_true, if_false, not_true_eq_false, not_false_eq_true]
theorem ul_20 (hj : j < 6) (hL : L.length ≤ 15) : jm_K (d + 1) md_X7_lent [.ref 217, .int (nI j), .int (nI 20)] (jm_mk (uL m L)) = some (some (.int (nI j)), jm_mk (uL m (L ++ [nI 20]))) := by
  show jm_R (d + 1) md_X7_lent 0 [.ref 217, .int (nI j), .int (nI 20)] [] _ = _
  have h14 : 14 + j < 44 := by omega
  have h26 : 26 + j < 44 := by omega
  have h32 : 32 + j < 44 := by omega
  have a0 := k_begin (d := d) (m := m) (L := L) (v := nI 20) (by have := hL; simp; omega)
  simp only [e_X7_lent_0, e_X7_lent_1, e_X7_lent_2, e_X7_lent_5, e_X7_lent_6, e_X7_lent_8, e_X7_lent_11, e_X7_lent_12, e_X7_lent_15, e_X7_lent_17, e_X7_lent_18, e_X7_lent_19, e_X7_lent_20, e_X7_lent_23, e_X7_lent_24, a0, jm_bd_v, jm_bd_0, nI_add, h14, h26, h32, u221, show ¬ nI 1 = nI 2 by decide, show ¬ nI 1 = nI 3 by decide, show ¬ nI 3 = nI 2 by decide, show ¬ nI 4 = nI 1 by decide, show ¬ nI 4 = nI 2 by decide, show ¬ nI 4 = nI 3 by decide, show ¬ nI 5 = nI 1 by decide, show ¬ nI 5 = nI 2 by decide, show ¬ nI 5 = nI 3 by decide, show ¬ nI 4 = nI 5 by decide, show nI 1 < nI 4 by decide, show nI 3 < nI 4 by decide, show ¬ nI 4 < nI 4 by decide, show ¬ nI 5 < nI 4 by decide, show ¬ nI 20 = nI 10 by decide, if_true, if_false, not_true_eq_false, not_false_eq_true]
theorem u_sm (hj : j < 6) (hL : L.length ≤ 14) : jm_K (d + 2) md_X7_sailMark [.ref 217, .int (nI j)] (jm_mk (uL m L)) = some (some (.int (nI j + m 221 (32 + j))), jm_mk (uL m (L ++ [nI 21] ++ [nI 20]))) := by
  show jm_R (d + 2) md_X7_sailMark 0 [.ref 217, .int (nI j)] [] _ = _
  have h14 : 14 + j < 44 := by omega
  have h26 : 26 + j < 44 := by omega
  have h32 : 32 + j < 44 := by omega
  have a0 := k_begin (d := d + 1) (m := m) (L := L) (v := nI 21) (by have := hL; simp; omega)
  have a1 := ul_20 (d := d) (m := m) (L := L ++ [nI 21]) hj (by have := hL; simp; omega)
  simp only [e_X7_sailMark_0, e_X7_sailMark_1, e_X7_sailMark_3, e_X7_sailMark_6, e_X7_sailMark_7, e_X7_sailMark_8, e_X7_sailMark_10, e_X7_sailMark_13, e_X7_sailMark_14, e_X7_sailMark_17, e_X7_sailMark_19, e_X7_sailMark_20, e_X7_sailMark_21, e_X7_sailMark_22, e_X7_sailMark_23, a0, a1, jm_bd_v, jm_bd_0, nI_add, h14, h26, h32, u221, show ¬ nI 1 = nI 2 by decide, show ¬ nI 1 = nI 3 by decide, show ¬ nI 3 = nI 2 by decide, show ¬ nI 4 = nI 1 by decide, show ¬ nI 4 = nI 2 by decide, show ¬ nI 4 = nI 3 by decide, show ¬ nI 5 = nI 1 by decide, show ¬ nI 5 = nI 2 by decide, show ¬ nI 5 = nI 3 by decide, show ¬ nI 4 = nI 5 by decide, show nI 1 < nI 4 by decide, show nI 3 < nI 4 by decide, show ¬ nI 4 < nI 4 by decide, show ¬ nI 5 < nI 4 by decide, show ¬ nI 20 = nI 10 by decide, if_true, if_false, not_true_eq_false, not_false_eq_true]
theorem u_fs (hj : j < 6) (hL : L.length ≤ 14) : jm_K (d + 2) md_X7_ferrySize [.ref 217, .int (nI j)] (jm_mk (uL m L)) = some (some (.int (m 221 (26 + j) - nI 100)), jm_mk (uL m (L ++ [nI 13] ++ [nI 10]))) := by
  show jm_R (d + 2) md_X7_ferrySize 0 [.ref 217, .int (nI j)] [] _ = _
  have h14 : 14 + j < 44 := by omega
  have h26 : 26 + j < 44 := by omega
  have h32 : 32 + j < 44 := by omega
  have a0 := k_begin (d := d + 1) (m := m) (L := L) (v := nI 13) (by have := hL; simp; omega)
  have a1 := ul_10 (d := d) (m := m) (L := L ++ [nI 13]) hj (by have := hL; simp; omega)
  simp only [e_X7_ferrySize_0, e_X7_ferrySize_1, e_X7_ferrySize_3, e_X7_ferrySize_6, e_X7_ferrySize_7, e_X7_ferrySize_8, e_X7_ferrySize_10, e_X7_ferrySize_13, e_X7_ferrySize_15, e_X7_ferrySize_16, a0, a1, jm_bd_v, jm_bd_0, nI_add, h14, h26, h32, u221, show ¬ nI 1 = nI 2 by decide, show ¬ nI 1 = nI 3 by decide, show ¬ nI 3 = nI 2 by decide, show ¬ nI 4 = nI 1 by decide, show ¬ nI 4 = nI 2 by decide, show ¬ nI 4 = nI 3 by decide, show ¬ nI 5 = nI 1 by decide, show ¬ nI 5 = nI 2 by decide, show ¬ nI 5 = nI 3 by decide, show ¬ nI 4 = nI 5 by decide, show nI 1 < nI 4 by decide, show nI 3 < nI 4 by decide, show ¬ nI 4 < nI 4 by decide, show ¬ nI 5 < nI 4 by decide, show ¬ nI 20 = nI 10 by decide, if_true, if_false, not_true_eq_false, not_false_eq_true]
theorem u_sf4 (hj : j < 6) (hs : m 221 (14 + j) = nI 4) (hL : L.length ≤ 14) : jm_K (d + 3) md_X7_sizeOfFerry [.ref 217, .int (nI j)] (jm_mk (uL m L)) = some (some (.int (m 221 (26 + j) - nI 100)), jm_mk (uL m (L ++ [nI 13] ++ [nI 10]))) := by
  show jm_R (d + 3) md_X7_sizeOfFerry 0 [.ref 217, .int (nI j)] [] _ = _
  have h14 : 14 + j < 44 := by omega
  have h26 : 26 + j < 44 := by omega
  have h32 : 32 + j < 44 := by omega
  have a0 := u_fs (d := d) (m := m) (L := L) hj (by have := hL; simp; omega)
  simp only [e_X7_sizeOfFerry_0, e_X7_sizeOfFerry_1, e_X7_sizeOfFerry_4, e_X7_sizeOfFerry_6, e_X7_sizeOfFerry_7, e_X7_sizeOfFerry_8, e_X7_sizeOfFerry_9, e_X7_sizeOfFerry_10, e_X7_sizeOfFerry_13, e_X7_sizeOfFerry_14, e_X7_sizeOfFerry_16, e_X7_sizeOfFerry_19, e_X7_sizeOfFerry_20, e_X7_sizeOfFerry_21, e_X7_sizeOfFerry_22, e_X7_sizeOfFerry_25, e_X7_sizeOfFerry_26, e_X7_sizeOfFerry_27, e_X7_sizeOfFerry_28, e_X7_sizeOfFerry_29, e_X7_sizeOfFerry_32, a0, jm_bd_v, jm_bd_0, nI_add, h14, h26, h32, u221, hs, show ¬ nI 1 = nI 2 by decide, show ¬ nI 1 = nI 3 by decide, show ¬ nI 3 = nI 2 by decide, show ¬ nI 4 = nI 1 by decide, show ¬ nI 4 = nI 2 by decide, show ¬ nI 4 = nI 3 by decide, show ¬ nI 5 = nI 1 by decide, show ¬ nI 5 = nI 2 by decide, show ¬ nI 5 = nI 3 by decide, show ¬ nI 4 = nI 5 by decide, show nI 1 < nI 4 by decide, show nI 3 < nI 4 by decide, show ¬ nI 4 < nI 4 by decide, show ¬ nI 5 < nI 4 by decide, show ¬ nI 20 = nI 10 by decide, if_true, if_false, not_true_eq_false, not_false_eq_true]
theorem u_sf5 (hj : j < 6) (hs : m 221 (14 + j) = nI 5) (hL : L.length ≤ 13) : jm_K (d + 3) md_X7_sizeOfFerry [.ref 217, .int (nI j)] (jm_mk (uL m L)) = some (some (.int (nI 2 * (m 221 (26 + j) - nI 100))), jm_mk (uL m (L ++ [nI 14] ++ [nI 13] ++ [nI 10]))) := by
  show jm_R (d + 3) md_X7_sizeOfFerry 0 [.ref 217, .int (nI j)] [] _ = _
  have h14 : 14 + j < 44 := by omega
  have h26 : 26 + j < 44 := by omega
  have h32 : 32 + j < 44 := by omega
  have a0 := k_begin (d := d + 2) (m := m) (L := L) (v := nI 14) (by have := hL; simp; omega)
  have a1 := u_fs (d := d) (m := m) (L := L ++ [nI 14]) hj (by have := hL; simp; omega)
  simp only [e_X7_sizeOfFerry_0, e_X7_sizeOfFerry_1, e_X7_sizeOfFerry_4, e_X7_sizeOfFerry_6, e_X7_sizeOfFerry_7, e_X7_sizeOfFerry_8, e_X7_sizeOfFerry_9, e_X7_sizeOfFerry_10, e_X7_sizeOfFerry_13, e_X7_sizeOfFerry_14, e_X7_sizeOfFerry_16, e_X7_sizeOfFerry_19, e_X7_sizeOfFerry_20, e_X7_sizeOfFerry_21, e_X7_sizeOfFerry_22, e_X7_sizeOfFerry_25, e_X7_sizeOfFerry_26, e_X7_sizeOfFerry_27, e_X7_sizeOfFerry_28, e_X7_sizeOfFerry_29, e_X7_sizeOfFerry_32, a0, a1, jm_bd_v, jm_bd_0, nI_add, h14, h26, h32, u221, hs, show ¬ nI 1 = nI 2 by decide, show ¬ nI 1 = nI 3 by decide, show ¬ nI 3 = nI 2 by decide, show ¬ nI 4 = nI 1 by decide, show ¬ nI 4 = nI 2 by decide, show ¬ nI 4 = nI 3 by decide, show ¬ nI 5 = nI 1 by decide, show ¬ nI 5 = nI 2 by decide, show ¬ nI 5 = nI 3 by decide, show ¬ nI 4 = nI 5 by decide, show nI 1 < nI 4 by decide, show nI 3 < nI 4 by decide, show ¬ nI 4 < nI 4 by decide, show ¬ nI 5 < nI 4 by decide, show ¬ nI 20 = nI 10 by decide, if_true, if_false, not_true_eq_false, not_false_eq_true]
theorem u_mk1 (hj : j < 6) (hs : m 221 (14 + j) = nI 1) (hL : L.length ≤ 14) : jm_K (d + 4) md_X7_markOf [.ref 217, .int (nI j)] (jm_mk (uL m L)) = some (some (.int (nI j + m 221 (32 + j))), jm_mk (uL m (L ++ [nI 21] ++ [nI 20]))) := by
  show jm_R (d + 4) md_X7_markOf 0 [.ref 217, .int (nI j), .null, .null] [] _ = _
  have h14 : 14 + j < 44 := by omega
  have h26 : 26 + j < 44 := by omega
  have h32 : 32 + j < 44 := by omega
  have a0 := u_sm (d := d + 1) (m := m) (L := L) hj (by have := hL; simp; omega)
  simp only [e_X7_markOf_0, e_X7_markOf_1, e_X7_markOf_4, e_X7_markOf_6, e_X7_markOf_7, e_X7_markOf_8, e_X7_markOf_9, e_X7_markOf_10, e_X7_markOf_11, e_X7_markOf_12, e_X7_markOf_15, e_X7_markOf_16, e_X7_markOf_18, e_X7_markOf_21, e_X7_markOf_22, e_X7_markOf_23, e_X7_markOf_24, e_X7_markOf_27, e_X7_markOf_28, e_X7_markOf_29, e_X7_markOf_30, e_X7_markOf_31, e_X7_markOf_34, e_X7_markOf_35, e_X7_markOf_37, e_X7_markOf_40, e_X7_markOf_41, e_X7_markOf_42, e_X7_markOf_45, e_X7_markOf_48, e_X7_markOf_49, e_X7_markOf_50, e_X7_markOf_51, e_X7_markOf_52, e_X7_markOf_55, e_X7_markOf_56, e_X7_markOf_57, e_X7_markOf_60, e_X7_markOf_61, e_X7_markOf_62, e_X7_markOf_64, e_X7_markOf_67, e_X7_markOf_68, e_X7_markOf_69, e_X7_markOf_71, e_X7_markOf_74, e_X7_markOf_75, e_X7_markOf_76, e_X7_markOf_77, e_X7_markOf_78, e_X7_markOf_81, e_X7_markOf_82, a0, jm_bd_v, jm_bd_0, nI_add, h14, h26, h32, u221, hs, show ¬ nI 1 = nI 2 by decide, show ¬ nI 1 = nI 3 by decide, show ¬ nI 3 = nI 2 by decide, show ¬ nI 4 = nI 1 by decide, show ¬ nI 4 = nI 2 by decide, show ¬ nI 4 = nI 3 by decide, show ¬ nI 5 = nI 1 by decide, show ¬ nI 5 = nI 2 by decide, show ¬ nI 5 = nI 3 by decide, show ¬ nI 4 = nI 5 by decide, show nI 1 < nI 4 by decide, show nI 3 < nI 4 by decide, show ¬ nI 4 < nI 4 by decide, show ¬ nI 5 < nI 4 by decide, show ¬ nI 20 = nI 10 by decide, if_true, if_false, not_true_eq_false, not_false_eq_true]
theorem u_mk2 (hj : j < 6) (hs : m 221 (14 + j) = nI 2) (hL : L.length ≤ 13) : jm_K (d + 4) md_X7_markOf [.ref 217, .int (nI j)] (jm_mk (uL m L)) = some (some (.int (nI 2 * (nI j + m 221 (32 + j)))), jm_mk (uL m (L ++ [nI 24] ++ [nI 21] ++ [nI 20]))) := by
  show jm_R (d + 4) md_X7_markOf 0 [.ref 217, .int (nI j), .null, .null] [] _ = _
  have h14 : 14 + j < 44 := by omega
  have h26 : 26 + j < 44 := by omega
  have h32 : 32 + j < 44 := by omega
  have a0 := k_begin (d := d + 3) (m := m) (L := L) (v := nI 24) (by have := hL; simp; omega)
  have a1 := u_sm (d := d + 1) (m := m) (L := L ++ [nI 24]) hj (by have := hL; simp; omega)
  simp only [e_X7_markOf_0, e_X7_markOf_1, e_X7_markOf_4, e_X7_markOf_6, e_X7_markOf_7, e_X7_markOf_8, e_X7_markOf_9, e_X7_markOf_10, e_X7_markOf_11, e_X7_markOf_12, e_X7_markOf_15, e_X7_markOf_16, e_X7_markOf_18, e_X7_markOf_21, e_X7_markOf_22, e_X7_markOf_23, e_X7_markOf_24, e_X7_markOf_27, e_X7_markOf_28, e_X7_markOf_29, e_X7_markOf_30, e_X7_markOf_31, e_X7_markOf_34, e_X7_markOf_35, e_X7_markOf_37, e_X7_markOf_40, e_X7_markOf_41, e_X7_markOf_42, e_X7_markOf_45, e_X7_markOf_48, e_X7_markOf_49, e_X7_markOf_50, e_X7_markOf_51, e_X7_markOf_52, e_X7_markOf_55, e_X7_markOf_56, e_X7_markOf_57, e_X7_markOf_60, e_X7_markOf_61, e_X7_markOf_62, e_X7_markOf_64, e_X7_markOf_67, e_X7_markOf_68, e_X7_markOf_69, e_X7_markOf_71, e_X7_markOf_74, e_X7_markOf_75, e_X7_markOf_76, e_X7_markOf_77, e_X7_markOf_78, e_X7_markOf_81, e_X7_markOf_82, a0, a1, jm_bd_v, jm_bd_0, nI_add, h14, h26, h32, u221, hs, show ¬ nI 1 = nI 2 by decide, show ¬ nI 1 = nI 3 by decide, show ¬ nI 3 = nI 2 by decide, show ¬ nI 4 = nI 1 by decide, show ¬ nI 4 = nI 2 by decide, show ¬ nI 4 = nI 3 by decide, show ¬ nI 5 = nI 1 by decide, show ¬ nI 5 = nI 2 by decide, show ¬ nI 5 = nI 3 by decide, show ¬ nI 4 = nI 5 by decide, show nI 1 < nI 4 by decide, show nI 3 < nI 4 by decide, show ¬ nI 4 < nI 4 by decide, show ¬ nI 5 < nI 4 by decide, show ¬ nI 20 = nI 10 by decide, if_true, if_false, not_true_eq_false, not_false_eq_true]
theorem u_mk3 (hj : j < 6) (hs : m 221 (14 + j) = nI 3) (hL : L.length ≤ 13) : jm_K (d + 4) md_X7_markOf [.ref 217, .int (nI j)] (jm_mk (uL m L)) = some (some (.int (nI j + m 221 (32 + j) - nI 1000)), jm_mk (uL m (L ++ [nI 22] ++ [nI 21] ++ [nI 20]))) := by
  show jm_R (d + 4) md_X7_markOf 0 [.ref 217, .int (nI j), .null, .null] [] _ = _
  have h14 : 14 + j < 44 := by omega
  have h26 : 26 + j < 44 := by omega
  have h32 : 32 + j < 44 := by omega
  have a0 := k_begin (d := d + 3) (m := m) (L := L) (v := nI 22) (by have := hL; simp; omega)
  have a1 := u_sm (d := d + 1) (m := m) (L := L ++ [nI 22]) hj (by have := hL; simp; omega)
  simp only [e_X7_markOf_0, e_X7_markOf_1, e_X7_markOf_4, e_X7_markOf_6, e_X7_markOf_7, e_X7_markOf_8, e_X7_markOf_9, e_X7_markOf_10, e_X7_markOf_11, e_X7_markOf_12, e_X7_markOf_15, e_X7_markOf_16, e_X7_markOf_18, e_X7_markOf_21, e_X7_markOf_22, e_X7_markOf_23, e_X7_markOf_24, e_X7_markOf_27, e_X7_markOf_28, e_X7_markOf_29, e_X7_markOf_30, e_X7_markOf_31, e_X7_markOf_34, e_X7_markOf_35, e_X7_markOf_37, e_X7_markOf_40, e_X7_markOf_41, e_X7_markOf_42, e_X7_markOf_45, e_X7_markOf_48, e_X7_markOf_49, e_X7_markOf_50, e_X7_markOf_51, e_X7_markOf_52, e_X7_markOf_55, e_X7_markOf_56, e_X7_markOf_57, e_X7_markOf_60, e_X7_markOf_61, e_X7_markOf_62, e_X7_markOf_64, e_X7_markOf_67, e_X7_markOf_68, e_X7_markOf_69, e_X7_markOf_71, e_X7_markOf_74, e_X7_markOf_75, e_X7_markOf_76, e_X7_markOf_77, e_X7_markOf_78, e_X7_markOf_81, e_X7_markOf_82, a0, a1, jm_bd_v, jm_bd_0, nI_add, h14, h26, h32, u221, hs, show ¬ nI 1 = nI 2 by decide, show ¬ nI 1 = nI 3 by decide, show ¬ nI 3 = nI 2 by decide, show ¬ nI 4 = nI 1 by decide, show ¬ nI 4 = nI 2 by decide, show ¬ nI 4 = nI 3 by decide, show ¬ nI 5 = nI 1 by decide, show ¬ nI 5 = nI 2 by decide, show ¬ nI 5 = nI 3 by decide, show ¬ nI 4 = nI 5 by decide, show nI 1 < nI 4 by decide, show nI 3 < nI 4 by decide, show ¬ nI 4 < nI 4 by decide, show ¬ nI 5 < nI 4 by decide, show ¬ nI 20 = nI 10 by decide, if_true, if_false, not_true_eq_false, not_false_eq_true]
theorem u_mk4 (hj : j < 6) (hs : m 221 (14 + j) = nI 4) (hL : L.length ≤ 12) : jm_K (d + 4) md_X7_markOf [.ref 217, .int (nI j)] (jm_mk (uL m L)) = some (some (.int (nI j - (m 221 (26 + j) - nI 100))), jm_mk (uL m (L ++ [nI 23] ++ [nI 20] ++ [nI 13] ++ [nI 10]))) := by
  show jm_R (d + 4) md_X7_markOf 0 [.ref 217, .int (nI j), .null, .null] [] _ = _
  have h14 : 14 + j < 44 := by omega
  have h26 : 26 + j < 44 := by omega
  have h32 : 32 + j < 44 := by omega
  have a0 := k_begin (d := d + 3) (m := m) (L := L) (v := nI 23) (by have := hL; simp; omega)
  have a1 := ul_20 (d := d + 2) (m := m) (L := L ++ [nI 23]) hj (by have := hL; simp; omega)
  have a2 := u_sf4 (d := d) (m := m) (L := L ++ [nI 23] ++ [nI 20]) hj hs (by have := hL; simp; omega)
  simp only [e_X7_markOf_0, e_X7_markOf_1, e_X7_markOf_4, e_X7_markOf_6, e_X7_markOf_7, e_X7_markOf_8, e_X7_markOf_9, e_X7_markOf_10, e_X7_markOf_11, e_X7_markOf_12, e_X7_markOf_15, e_X7_markOf_16, e_X7_markOf_18, e_X7_markOf_21, e_X7_markOf_22, e_X7_markOf_23, e_X7_markOf_24, e_X7_markOf_27, e_X7_markOf_28, e_X7_markOf_29, e_X7_markOf_30, e_X7_markOf_31, e_X7_markOf_34, e_X7_markOf_35, e_X7_markOf_37, e_X7_markOf_40, e_X7_markOf_41, e_X7_markOf_42, e_X7_markOf_45, e_X7_markOf_48, e_X7_markOf_49, e_X7_markOf_50, e_X7_markOf_51, e_X7_markOf_52, e_X7_markOf_55, e_X7_markOf_56, e_X7_markOf_57, e_X7_markOf_60, e_X7_markOf_61, e_X7_markOf_62, e_X7_markOf_64, e_X7_markOf_67, e_X7_markOf_68, e_X7_markOf_69, e_X7_markOf_71, e_X7_markOf_74, e_X7_markOf_75, e_X7_markOf_76, e_X7_markOf_77, e_X7_markOf_78, e_X7_markOf_81, e_X7_markOf_82, a0, a1, a2, jm_bd_v, jm_bd_0, nI_add, h14, h26, h32, u221, hs, show ¬ nI 1 = nI 2 by decide, show ¬ nI 1 = nI 3 by decide, show ¬ nI 3 = nI 2 by decide, show ¬ nI 4 = nI 1 by decide, show ¬ nI 4 = nI 2 by decide, show ¬ nI 4 = nI 3 by decide, show ¬ nI 5 = nI 1 by decide, show ¬ nI 5 = nI 2 by decide, show ¬ nI 5 = nI 3 by decide, show ¬ nI 4 = nI 5 by decide, show nI 1 < nI 4 by decide, show nI 3 < nI 4 by decide, show ¬ nI 4 < nI 4 by decide, show ¬ nI 5 < nI 4 by decide, show ¬ nI 20 = nI 10 by decide, if_true, if_false, not_true_eq_false, not_false_eq_true]
theorem u_mk5 (hj : j < 6) (hs : m 221 (14 + j) = nI 5) (hL : L.length ≤ 11) : jm_K (d + 4) md_X7_markOf [.ref 217, .int (nI j)] (jm_mk (uL m L)) = some (some (.int (nI j - nI 2 * (m 221 (26 + j) - nI 100))), jm_mk (uL m (L ++ [nI 23] ++ [nI 20] ++ [nI 14] ++ [nI 13] ++ [nI 10]))) := by
  show jm_R (d + 4) md_X7_markOf 0 [.ref 217, .int (nI j), .null, .null] [] _ = _
  have h14 : 14 + j < 44 := by omega
  have h26 : 26 + j < 44 := by omega
  have h32 : 32 + j < 44 := by omega
  have a0 := k_begin (d := d + 3) (m := m) (L := L) (v := nI 23) (by have := hL; simp; omega)
  have a1 := ul_20 (d := d + 2) (m := m) (L := L ++ [nI 23]) hj (by have := hL; simp; omega)
  have a2 := u_sf5 (d := d) (m := m) (L := L ++ [nI 23] ++ [nI 20]) hj hs (by have := hL; simp; omega)
  simp only [e_X7_markOf_0, e_X7_markOf_1, e_X7_markOf_4, e_X7_markOf_6, e_X7_markOf_7, e_X7_markOf_8, e_X7_markOf_9, e_X7_markOf_10, e_X7_markOf_11, e_X7_markOf_12, e_X7_markOf_15, e_X7_markOf_16, e_X7_markOf_18, e_X7_markOf_21, e_X7_markOf_22, e_X7_markOf_23, e_X7_markOf_24, e_X7_markOf_27, e_X7_markOf_28, e_X7_markOf_29, e_X7_markOf_30, e_X7_markOf_31, e_X7_markOf_34, e_X7_markOf_35, e_X7_markOf_37, e_X7_markOf_40, e_X7_markOf_41, e_X7_markOf_42, e_X7_markOf_45, e_X7_markOf_48, e_X7_markOf_49, e_X7_markOf_50, e_X7_markOf_51, e_X7_markOf_52, e_X7_markOf_55, e_X7_markOf_56, e_X7_markOf_57, e_X7_markOf_60, e_X7_markOf_61, e_X7_markOf_62, e_X7_markOf_64, e_X7_markOf_67, e_X7_markOf_68, e_X7_markOf_69, e_X7_markOf_71, e_X7_markOf_74, e_X7_markOf_75, e_X7_markOf_76, e_X7_markOf_77, e_X7_markOf_78, e_X7_markOf_81, e_X7_markOf_82, a0, a1, a2, jm_bd_v, jm_bd_0, nI_add, h14, h26, h32, u221, hs, show ¬ nI 1 = nI 2 by decide, show ¬ nI 1 = nI 3 by decide, show ¬ nI 3 = nI 2 by decide, show ¬ nI 4 = nI 1 by decide, show ¬ nI 4 = nI 2 by decide, show ¬ nI 4 = nI 3 by decide, show ¬ nI 5 = nI 1 by decide, show ¬ nI 5 = nI 2 by decide, show ¬ nI 5 = nI 3 by decide, show ¬ nI 4 = nI 5 by decide, show nI 1 < nI 4 by decide, show nI 3 < nI 4 by decide, show ¬ nI 4 < nI 4 by decide, show ¬ nI 5 < nI 4 by decide, show ¬ nI 20 = nI 10 by decide, if_true, if_false, not_true_eq_false, not_false_eq_true]
theorem u_ss1 (hj : j < 6) (hs : m 221 (14 + j) = nI 1) (hL : L.length ≤ 12) : jm_K (d + 5) md_X7_sailSize [.ref 217, .int (nI j)] (jm_mk (uL m L)) = some (some (.int (m 221 (26 + j) + (nI j + m 221 (32 + j)))), jm_mk (uL m (L ++ [nI 11] ++ [nI 10] ++ [nI 21] ++ [nI 20]))) := by
  show jm_R (d + 5) md_X7_sailSize 0 [.ref 217, .int (nI j), .null] [] _ = _
  have h14 : 14 + j < 44 := by omega
  have h26 : 26 + j < 44 := by omega
  have h32 : 32 + j < 44 := by omega
  have a0 := k_begin (d := d + 4) (m := m) (L := L) (v := nI 11) (by have := hL; simp; omega)
  have a1 := ul_10 (d := d + 3) (m := m) (L := L ++ [nI 11]) hj (by have := hL; simp; omega)
  have a2 := u_mk1 (d := d) (m := m) (L := L ++ [nI 11] ++ [nI 10]) hj hs (by have := hL; simp; omega)
  simp only [e_X7_sailSize_0, e_X7_sailSize_1, e_X7_sailSize_3, e_X7_sailSize_6, e_X7_sailSize_7, e_X7_sailSize_8, e_X7_sailSize_10, e_X7_sailSize_13, e_X7_sailSize_14, e_X7_sailSize_15, e_X7_sailSize_16, e_X7_sailSize_17, e_X7_sailSize_20, e_X7_sailSize_21, a0, a1, a2, jm_bd_v, jm_bd_0, nI_add, h14, h26, h32, u221, hs, show ¬ nI 1 = nI 2 by decide, show ¬ nI 1 = nI 3 by decide, show ¬ nI 3 = nI 2 by decide, show ¬ nI 4 = nI 1 by decide, show ¬ nI 4 = nI 2 by decide, show ¬ nI 4 = nI 3 by decide, show ¬ nI 5 = nI 1 by decide, show ¬ nI 5 = nI 2 by decide, show ¬ nI 5 = nI 3 by decide, show ¬ nI 4 = nI 5 by decide, show nI 1 < nI 4 by decide, show nI 3 < nI 4 by decide, show ¬ nI 4 < nI 4 by decide, show ¬ nI 5 < nI 4 by decide, show ¬ nI 20 = nI 10 by decide, if_true, if_false, not_true_eq_false, not_false_eq_true]
theorem u_ss2 (hj : j < 6) (hs : m 221 (14 + j) = nI 2) (hL : L.length ≤ 11) : jm_K (d + 5) md_X7_sailSize [.ref 217, .int (nI j)] (jm_mk (uL m L)) = some (some (.int (m 221 (26 + j) + (nI 2 * (nI j + m 221 (32 + j))))), jm_mk (uL m (L ++ [nI 11] ++ [nI 10] ++ [nI 24] ++ [nI 21] ++ [nI 20]))) := by
  show jm_R (d + 5) md_X7_sailSize 0 [.ref 217, .int (nI j), .null] [] _ = _
  have h14 : 14 + j < 44 := by omega
  have h26 : 26 + j < 44 := by omega
  have h32 : 32 + j < 44 := by omega
  have a0 := k_begin (d := d + 4) (m := m) (L := L) (v := nI 11) (by have := hL; simp; omega)
  have a1 := ul_10 (d := d + 3) (m := m) (L := L ++ [nI 11]) hj (by have := hL; simp; omega)
  have a2 := u_mk2 (d := d) (m := m) (L := L ++ [nI 11] ++ [nI 10]) hj hs (by have := hL; simp; omega)
  simp only [e_X7_sailSize_0, e_X7_sailSize_1, e_X7_sailSize_3, e_X7_sailSize_6, e_X7_sailSize_7, e_X7_sailSize_8, e_X7_sailSize_10, e_X7_sailSize_13, e_X7_sailSize_14, e_X7_sailSize_15, e_X7_sailSize_16, e_X7_sailSize_17, e_X7_sailSize_20, e_X7_sailSize_21, a0, a1, a2, jm_bd_v, jm_bd_0, nI_add, h14, h26, h32, u221, hs, show ¬ nI 1 = nI 2 by decide, show ¬ nI 1 = nI 3 by decide, show ¬ nI 3 = nI 2 by decide, show ¬ nI 4 = nI 1 by decide, show ¬ nI 4 = nI 2 by decide, show ¬ nI 4 = nI 3 by decide, show ¬ nI 5 = nI 1 by decide, show ¬ nI 5 = nI 2 by decide, show ¬ nI 5 = nI 3 by decide, show ¬ nI 4 = nI 5 by decide, show nI 1 < nI 4 by decide, show nI 3 < nI 4 by decide, show ¬ nI 4 < nI 4 by decide, show ¬ nI 5 < nI 4 by decide, show ¬ nI 20 = nI 10 by decide, if_true, if_false, not_true_eq_false, not_false_eq_true]
theorem u_ss3 (hj : j < 6) (hs : m 221 (14 + j) = nI 3) (hL : L.length ≤ 11) : jm_K (d + 5) md_X7_sailSize [.ref 217, .int (nI j)] (jm_mk (uL m L)) = some (some (.int (m 221 (26 + j) + (nI j + m 221 (32 + j) - nI 1000))), jm_mk (uL m (L ++ [nI 11] ++ [nI 10] ++ [nI 22] ++ [nI 21] ++ [nI 20]))) := by
  show jm_R (d + 5) md_X7_sailSize 0 [.ref 217, .int (nI j), .null] [] _ = _
  have h14 : 14 + j < 44 := by omega
  have h26 : 26 + j < 44 := by omega
  have h32 : 32 + j < 44 := by omega
  have a0 := k_begin (d := d + 4) (m := m) (L := L) (v := nI 11) (by have := hL; simp; omega)
  have a1 := ul_10 (d := d + 3) (m := m) (L := L ++ [nI 11]) hj (by have := hL; simp; omega)
  have a2 := u_mk3 (d := d) (m := m) (L := L ++ [nI 11] ++ [nI 10]) hj hs (by have := hL; simp; omega)
  simp only [e_X7_sailSize_0, e_X7_sailSize_1, e_X7_sailSize_3, e_X7_sailSize_6, e_X7_sailSize_7, e_X7_sailSize_8, e_X7_sailSize_10, e_X7_sailSize_13, e_X7_sailSize_14, e_X7_sailSize_15, e_X7_sailSize_16, e_X7_sailSize_17, e_X7_sailSize_20, e_X7_sailSize_21, a0, a1, a2, jm_bd_v, jm_bd_0, nI_add, h14, h26, h32, u221, hs, show ¬ nI 1 = nI 2 by decide, show ¬ nI 1 = nI 3 by decide, show ¬ nI 3 = nI 2 by decide, show ¬ nI 4 = nI 1 by decide, show ¬ nI 4 = nI 2 by decide, show ¬ nI 4 = nI 3 by decide, show ¬ nI 5 = nI 1 by decide, show ¬ nI 5 = nI 2 by decide, show ¬ nI 5 = nI 3 by decide, show ¬ nI 4 = nI 5 by decide, show nI 1 < nI 4 by decide, show nI 3 < nI 4 by decide, show ¬ nI 4 < nI 4 by decide, show ¬ nI 5 < nI 4 by decide, show ¬ nI 20 = nI 10 by decide, if_true, if_false, not_true_eq_false, not_false_eq_true]
theorem u_sz1 (hj : j < 6) (hs : m 221 (14 + j) = nI 1) (hL : L.length ≤ 12) : jm_K (d + 6) md_X7_sizeOf [.ref 217, .int (nI j)] (jm_mk (uL m L)) = some (some (.int (m 221 (26 + j) + (nI j + m 221 (32 + j)))), jm_mk (uL m (L ++ [nI 11] ++ [nI 10] ++ [nI 21] ++ [nI 20]))) := by
  show jm_R (d + 6) md_X7_sizeOf 0 [.ref 217, .int (nI j), .null] [] _ = _
  have h14 : 14 + j < 44 := by omega
  have h26 : 26 + j < 44 := by omega
  have h32 : 32 + j < 44 := by omega
  have a0 := u_ss1 (d := d) (m := m) (L := L) hj hs (by have := hL; simp; omega)
  simp only [e_X7_sizeOf_0, e_X7_sizeOf_1, e_X7_sizeOf_4, e_X7_sizeOf_6, e_X7_sizeOf_7, e_X7_sizeOf_8, e_X7_sizeOf_9, e_X7_sizeOf_10, e_X7_sizeOf_11, e_X7_sizeOf_12, e_X7_sizeOf_15, e_X7_sizeOf_16, e_X7_sizeOf_18, e_X7_sizeOf_21, e_X7_sizeOf_22, e_X7_sizeOf_23, e_X7_sizeOf_26, e_X7_sizeOf_27, e_X7_sizeOf_28, e_X7_sizeOf_29, e_X7_sizeOf_30, e_X7_sizeOf_33, e_X7_sizeOf_34, e_X7_sizeOf_35, e_X7_sizeOf_38, e_X7_sizeOf_41, e_X7_sizeOf_42, e_X7_sizeOf_43, e_X7_sizeOf_46, a0, jm_bd_v, jm_bd_0, nI_add, h14, h26, h32, u221, hs, show ¬ nI 1 = nI 2 by decide, show ¬ nI 1 = nI 3 by decide, show ¬ nI 3 = nI 2 by decide, show ¬ nI 4 = nI 1 by decide, show ¬ nI 4 = nI 2 by decide, show ¬ nI 4 = nI 3 by decide, show ¬ nI 5 = nI 1 by decide, show ¬ nI 5 = nI 2 by decide, show ¬ nI 5 = nI 3 by decide, show ¬ nI 4 = nI 5 by decide, show nI 1 < nI 4 by decide, show nI 3 < nI 4 by decide, show ¬ nI 4 < nI 4 by decide, show ¬ nI 5 < nI 4 by decide, show ¬ nI 20 = nI 10 by decide, if_true, if_false, not_true_eq_false, not_false_eq_true]
theorem u_sz2 (hj : j < 6) (hs : m 221 (14 + j) = nI 2) (hL : L.length ≤ 10) : jm_K (d + 6) md_X7_sizeOf [.ref 217, .int (nI j)] (jm_mk (uL m L)) = some (some (.int (-(m 221 (26 + j) + (nI 2 * (nI j + m 221 (32 + j)))))), jm_mk (uL m (L ++ [nI 12] ++ [nI 11] ++ [nI 10] ++ [nI 24] ++ [nI 21] ++ [nI 20]))) := by
  show jm_R (d + 6) md_X7_sizeOf 0 [.ref 217, .int (nI j), .null] [] _ = _
  have h14 : 14 + j < 44 := by omega
  have h26 : 26 + j < 44 := by omega
  have h32 : 32 + j < 44 := by omega
  have a0 := k_begin (d := d + 5) (m := m) (L := L) (v := nI 12) (by have := hL; simp; omega)
  have a1 := u_ss2 (d := d) (m := m) (L := L ++ [nI 12]) hj hs (by have := hL; simp; omega)
  simp only [e_X7_sizeOf_0, e_X7_sizeOf_1, e_X7_sizeOf_4, e_X7_sizeOf_6, e_X7_sizeOf_7, e_X7_sizeOf_8, e_X7_sizeOf_9, e_X7_sizeOf_10, e_X7_sizeOf_11, e_X7_sizeOf_12, e_X7_sizeOf_15, e_X7_sizeOf_16, e_X7_sizeOf_18, e_X7_sizeOf_21, e_X7_sizeOf_22, e_X7_sizeOf_23, e_X7_sizeOf_26, e_X7_sizeOf_27, e_X7_sizeOf_28, e_X7_sizeOf_29, e_X7_sizeOf_30, e_X7_sizeOf_33, e_X7_sizeOf_34, e_X7_sizeOf_35, e_X7_sizeOf_38, e_X7_sizeOf_41, e_X7_sizeOf_42, e_X7_sizeOf_43, e_X7_sizeOf_46, a0, a1, jm_bd_v, jm_bd_0, nI_add, h14, h26, h32, u221, hs, show ¬ nI 1 = nI 2 by decide, show ¬ nI 1 = nI 3 by decide, show ¬ nI 3 = nI 2 by decide, show ¬ nI 4 = nI 1 by decide, show ¬ nI 4 = nI 2 by decide, show ¬ nI 4 = nI 3 by decide, show ¬ nI 5 = nI 1 by decide, show ¬ nI 5 = nI 2 by decide, show ¬ nI 5 = nI 3 by decide, show ¬ nI 4 = nI 5 by decide, show nI 1 < nI 4 by decide, show nI 3 < nI 4 by decide, show ¬ nI 4 < nI 4 by decide, show ¬ nI 5 < nI 4 by decide, show ¬ nI 20 = nI 10 by decide, if_true, if_false, not_true_eq_false, not_false_eq_true]
theorem u_sz3 (hj : j < 6) (hs : m 221 (14 + j) = nI 3) (hL : L.length ≤ 11) : jm_K (d + 6) md_X7_sizeOf [.ref 217, .int (nI j)] (jm_mk (uL m L)) = some (some (.int (m 221 (26 + j) + (nI j + m 221 (32 + j) - nI 1000))), jm_mk (uL m (L ++ [nI 11] ++ [nI 10] ++ [nI 22] ++ [nI 21] ++ [nI 20]))) := by
  show jm_R (d + 6) md_X7_sizeOf 0 [.ref 217, .int (nI j), .null] [] _ = _
  have h14 : 14 + j < 44 := by omega
  have h26 : 26 + j < 44 := by omega
  have h32 : 32 + j < 44 := by omega
  have a0 := u_ss3 (d := d) (m := m) (L := L) hj hs (by have := hL; simp; omega)
  simp only [e_X7_sizeOf_0, e_X7_sizeOf_1, e_X7_sizeOf_4, e_X7_sizeOf_6, e_X7_sizeOf_7, e_X7_sizeOf_8, e_X7_sizeOf_9, e_X7_sizeOf_10, e_X7_sizeOf_11, e_X7_sizeOf_12, e_X7_sizeOf_15, e_X7_sizeOf_16, e_X7_sizeOf_18, e_X7_sizeOf_21, e_X7_sizeOf_22, e_X7_sizeOf_23, e_X7_sizeOf_26, e_X7_sizeOf_27, e_X7_sizeOf_28, e_X7_sizeOf_29, e_X7_sizeOf_30, e_X7_sizeOf_33, e_X7_sizeOf_34, e_X7_sizeOf_35, e_X7_sizeOf_38, e_X7_sizeOf_41, e_X7_sizeOf_42, e_X7_sizeOf_43, e_X7_sizeOf_46, a0, jm_bd_v, jm_bd_0, nI_add, h14, h26, h32, u221, hs, show ¬ nI 1 = nI 2 by decide, show ¬ nI 1 = nI 3 by decide, show ¬ nI 3 = nI 2 by decide, show ¬ nI 4 = nI 1 by decide, show ¬ nI 4 = nI 2 by decide, show ¬ nI 4 = nI 3 by decide, show ¬ nI 5 = nI 1 by decide, show ¬ nI 5 = nI 2 by decide, show ¬ nI 5 = nI 3 by decide, show ¬ nI 4 = nI 5 by decide, show nI 1 < nI 4 by decide, show nI 3 < nI 4 by decide, show ¬ nI 4 < nI 4 by decide, show ¬ nI 5 < nI 4 by decide, show ¬ nI 20 = nI 10 by decide, if_true, if_false, not_true_eq_false, not_false_eq_true]
theorem u_sz4 (hj : j < 6) (hs : m 221 (14 + j) = nI 4) (hL : L.length ≤ 14) : jm_K (d + 6) md_X7_sizeOf [.ref 217, .int (nI j)] (jm_mk (uL m L)) = some (some (.int (m 221 (26 + j) - nI 100)), jm_mk (uL m (L ++ [nI 13] ++ [nI 10]))) := by
  show jm_R (d + 6) md_X7_sizeOf 0 [.ref 217, .int (nI j), .null] [] _ = _
  have h14 : 14 + j < 44 := by omega
  have h26 : 26 + j < 44 := by omega
  have h32 : 32 + j < 44 := by omega
  have a0 := u_sf4 (d := d + 2) (m := m) (L := L) hj hs (by have := hL; simp; omega)
  simp only [e_X7_sizeOf_0, e_X7_sizeOf_1, e_X7_sizeOf_4, e_X7_sizeOf_6, e_X7_sizeOf_7, e_X7_sizeOf_8, e_X7_sizeOf_9, e_X7_sizeOf_10, e_X7_sizeOf_11, e_X7_sizeOf_12, e_X7_sizeOf_15, e_X7_sizeOf_16, e_X7_sizeOf_18, e_X7_sizeOf_21, e_X7_sizeOf_22, e_X7_sizeOf_23, e_X7_sizeOf_26, e_X7_sizeOf_27, e_X7_sizeOf_28, e_X7_sizeOf_29, e_X7_sizeOf_30, e_X7_sizeOf_33, e_X7_sizeOf_34, e_X7_sizeOf_35, e_X7_sizeOf_38, e_X7_sizeOf_41, e_X7_sizeOf_42, e_X7_sizeOf_43, e_X7_sizeOf_46, a0, jm_bd_v, jm_bd_0, nI_add, h14, h26, h32, u221, hs, show ¬ nI 1 = nI 2 by decide, show ¬ nI 1 = nI 3 by decide, show ¬ nI 3 = nI 2 by decide, show ¬ nI 4 = nI 1 by decide, show ¬ nI 4 = nI 2 by decide, show ¬ nI 4 = nI 3 by decide, show ¬ nI 5 = nI 1 by decide, show ¬ nI 5 = nI 2 by decide, show ¬ nI 5 = nI 3 by decide, show ¬ nI 4 = nI 5 by decide, show nI 1 < nI 4 by decide, show nI 3 < nI 4 by decide, show ¬ nI 4 < nI 4 by decide, show ¬ nI 5 < nI 4 by decide, show ¬ nI 20 = nI 10 by decide, if_true, if_false, not_true_eq_false, not_false_eq_true]
theorem u_sz5 (hj : j < 6) (hs : m 221 (14 + j) = nI 5) (hL : L.length ≤ 13) : jm_K (d + 6) md_X7_sizeOf [.ref 217, .int (nI j)] (jm_mk (uL m L)) = some (some (.int (nI 2 * (m 221 (26 + j) - nI 100))), jm_mk (uL m (L ++ [nI 14] ++ [nI 13] ++ [nI 10]))) := by
  show jm_R (d + 6) md_X7_sizeOf 0 [.ref 217, .int (nI j), .null] [] _ = _
  have h14 : 14 + j < 44 := by omega
  have h26 : 26 + j < 44 := by omega
  have h32 : 32 + j < 44 := by omega
  have a0 := u_sf5 (d := d + 2) (m := m) (L := L) hj hs (by have := hL; simp; omega)
  simp only [e_X7_sizeOf_0, e_X7_sizeOf_1, e_X7_sizeOf_4, e_X7_sizeOf_6, e_X7_sizeOf_7, e_X7_sizeOf_8, e_X7_sizeOf_9, e_X7_sizeOf_10, e_X7_sizeOf_11, e_X7_sizeOf_12, e_X7_sizeOf_15, e_X7_sizeOf_16, e_X7_sizeOf_18, e_X7_sizeOf_21, e_X7_sizeOf_22, e_X7_sizeOf_23, e_X7_sizeOf_26, e_X7_sizeOf_27, e_X7_sizeOf_28, e_X7_sizeOf_29, e_X7_sizeOf_30, e_X7_sizeOf_33, e_X7_sizeOf_34, e_X7_sizeOf_35, e_X7_sizeOf_38, e_X7_sizeOf_41, e_X7_sizeOf_42, e_X7_sizeOf_43, e_X7_sizeOf_46, a0, jm_bd_v, jm_bd_0, nI_add, h14, h26, h32, u221, hs, show ¬ nI 1 = nI 2 by decide, show ¬ nI 1 = nI 3 by decide, show ¬ nI 3 = nI 2 by decide, show ¬ nI 4 = nI 1 by decide, show ¬ nI 4 = nI 2 by decide, show ¬ nI 4 = nI 3 by decide, show ¬ nI 5 = nI 1 by decide, show ¬ nI 5 = nI 2 by decide, show ¬ nI 5 = nI 3 by decide, show ¬ nI 4 = nI 5 by decide, show nI 1 < nI 4 by decide, show nI 3 < nI 4 by decide, show ¬ nI 4 < nI 4 by decide, show ¬ nI 5 < nI 4 by decide, show ¬ nI 20 = nI 10 by decide, if_true, if_false, not_true_eq_false, not_false_eq_true]
end UN
theorem Rel.tr {m : Nat → Nat → Int32} (hR : Rel m) {L : List Int32} (hL : L.length ≤ 16) : Rel (uL (tL m L) L) := by
  obtain ⟨g1, g2, g3, g4, g5, g6, g7⟩ := hR
  have ro : ∀ a, a ≠ 215 → a ≠ 216 → a ≠ 217 → a ≠ 229 → uL (tL m L) L a = m a := fun a h1 h2 h3 h4 => by rw [show uL (tL m L) L a = tL m L a from gL_o h3 h4, tL_o h1 h2]
  have s7 : ∀ j, j ≠ 22 → uL (tL m L) L 217 j = m 217 j := fun j hj => by rw [show uL (tL m L) L 217 j = tL m L 217 j from gL_e hj (by decide), tL_o (by decide) (by decide)]
  refine ⟨g1.c (fun a ha => ro a (by omega) (by omega) (by omega) (by omega)), g2.c (by rw [ro 0 (by decide) (by decide) (by decide) (by decide)]) (s7 3 (by decide)), g3.c (by rw [ro 13 (by decide) (by decide) (by decide) (by decide)]) (by rw [ro 13 (by decide) (by decide) (by decide) (by decide)]) (s7 8 (by decide)) (s7 9 (by decide)) (ro 14 (by decide) (by decide) (by decide) (by decide)) (ro 223 (by decide) (by decide) (by decide) (by decide)), g4.c (s7 4 (by decide)) (fun a ha hb => ro a (by omega) (by omega) (by omega) (by omega)) (fun j _ => by rw [ro 221 (by decide) (by decide) (by decide) (by decide)]) (s7 17 (by decide)), g5.c (by rw [ro 15 (by decide) (by decide) (by decide) (by decide)]) (by rw [ro 15 (by decide) (by decide) (by decide) (by decide)]) (s7 17 (by decide)) (fun a ha hb => ro a (by omega) (by omega) (by omega) (by omega)) (ro 225 (by decide) (by decide) (by decide) (by decide)), g6.c (fun a ha hb => ro a (by omega) (by omega) (by omega) (by omega)) (ro 227 (by decide) (by decide) (by decide) (by decide)) (ro 228 (by decide) (by decide) (by decide) (by decide)) (s7 4 (by decide)), ?_⟩
  refine ⟨L.length, hL, ?_, gL_n, fun i hi => ?_⟩
  · rw [show uL (tL m L) L 215 2 = tL m L 215 2 by rw [show uL (tL m L) L 215 = tL m L 215 from gL_o (by decide) (by decide)]]
    exact gL_n
  · rw [show uL (tL m L) L 216 = tL m L 216 from gL_o (by decide) (by decide), show tL m L 216 i = L.getD i 0 from gL_i hi (by decide), show uL (tL m L) L 229 i = L.getD i 0 from gL_i hi (by decide)]
theorem tL_nil {m : Nat → Nat → Int32} : jm_up m 215 2 (nI 0) = tL m [] := gL_0
theorem uL_nil {m : Nat → Nat → Int32} : jm_up m 217 22 (nI 0) = uL m [] := gL_0

theorem ask_one {m : Nat → Nat → Int32} (hR : Rel m) {N C j : Nat} {q v : Int32} {L : List Int32} (hj : j < N) (hN6 : N ≤ 6) (c6 : m 200 6 = nI N) (m4 : m 221 4 = nI N) (hb : ¬ nI j < nI 0 ∧ ¬ nI N ≤ nI j) (hq : ¬ q < nI 0 ∧ ¬ nI 1 < q) (hL : L.length ≤ 16) (h1 : jm_K 11 md_X1_answer [.ref 215, .int (nI j), .int (if q = nI 1 then nI 1 else nI 0)] (jm_mk m) = some (some (.int v), jm_mk (tL m L))) (h2 : jm_K 11 (if q = nI 0 then md_X7_sizeOf else md_X7_markOf) [.ref 217, .int (nI j)] (jm_mk (uL (tL m L) [])) = some (some (.int v), jm_mk (uL (tL m L) L))) : ∃ (r : Value) (m1 m2 : Nat → Nat → Int32), jm_K 12 md_X6_ask [.ref 0, .int (nI j), .int q] (jm_mk m) = some (some r, jm_mk m1) ∧ jm_K 12 md_X7_ask [.ref 217, .int (nI j), .int q] (jm_mk m1) = some (some r, jm_mk m2) ∧ Rel m2 := by
  have hI : jm_ia 200 = true := by decide
  refine ⟨.int v, tL m L, uL (tL m L) L, ?_, ?_, hR.tr hL⟩
  · show jm_R 12 md_X6_ask 0 [.ref 0, .int (nI j), .int q] [] _ = _
    by_cases z : q = nI 1
    · rw [if_pos z] at h1
      subst z
      simp only [e_X6_ask_0, e_X6_ask_1, e_X6_ask_4, e_X6_ask_5, e_X6_ask_8, e_X6_ask_11, e_X6_ask_12, e_X6_ask_13, e_X6_ask_14, e_X6_ask_17, e_X6_ask_20, e_X6_ask_22, e_X6_ask_23, e_X6_ask_24, e_X6_ask_27, e_X6_ask_28, e_X6_ask_29, e_X6_ask_30, e_X6_ask_33, e_X6_ask_34, e_X6_ask_37, e_X6_ask_38, e_X6_ask_41, k_X2_hasBoat hI, c6, k_X6_within, jm_bd_v, jm_bd_0, bv1, if_false, if_true, not_false_eq_true, not_true_eq_false, if_pos hb, if_pos hq, h1]
    · rw [if_neg z] at h1
      simp only [e_X6_ask_0, e_X6_ask_1, e_X6_ask_4, e_X6_ask_5, e_X6_ask_8, e_X6_ask_11, e_X6_ask_12, e_X6_ask_13, e_X6_ask_14, e_X6_ask_17, e_X6_ask_20, e_X6_ask_22, e_X6_ask_23, e_X6_ask_24, e_X6_ask_27, e_X6_ask_28, e_X6_ask_29, e_X6_ask_30, e_X6_ask_33, e_X6_ask_34, e_X6_ask_37, e_X6_ask_38, e_X6_ask_41, k_X2_hasBoat hI, c6, k_X6_within, jm_bd_v, jm_bd_0, bv1, if_false, if_true, not_false_eq_true, not_true_eq_false, if_pos hb, if_pos hq, z, h1]
  · show jm_R 12 md_X7_ask 0 [.ref 217, .int (nI j), .int q] [] _ = _
    have m4' : tL m L 221 4 = nI N := by rw [tL_o (by decide) (by decide)]; exact m4
    by_cases z : q = nI 0
    · rw [if_pos z] at h2
      subst z
      simp only [e_X7_ask_0, e_X7_ask_1, e_X7_ask_2, e_X7_ask_5, e_X7_ask_8, e_X7_ask_9, e_X7_ask_10, e_X7_ask_11, e_X7_ask_12, e_X7_ask_15, e_X7_ask_18, e_X7_ask_20, e_X7_ask_21, e_X7_ask_22, e_X7_ask_23, e_X7_ask_26, e_X7_ask_27, e_X7_ask_30, e_X7_ask_31, e_X7_ask_32, e_X7_ask_35, e_X7_ask_38, e_X7_ask_39, e_X7_ask_40, e_X7_ask_43, k_X7_isBoat m4' hN6, in_0_1, jm_bd_v, jm_bd_0, bv1, if_false, if_true, not_false_eq_true, not_true_eq_false, if_pos hb, if_pos hq, uL_nil, h2]
    · rw [if_neg z] at h2
      simp only [e_X7_ask_0, e_X7_ask_1, e_X7_ask_2, e_X7_ask_5, e_X7_ask_8, e_X7_ask_9, e_X7_ask_10, e_X7_ask_11, e_X7_ask_12, e_X7_ask_15, e_X7_ask_18, e_X7_ask_20, e_X7_ask_21, e_X7_ask_22, e_X7_ask_23, e_X7_ask_26, e_X7_ask_27, e_X7_ask_30, e_X7_ask_31, e_X7_ask_32, e_X7_ask_35, e_X7_ask_38, e_X7_ask_39, e_X7_ask_40, e_X7_ask_43, k_X7_isBoat m4' hN6, in_0_1, jm_bd_v, jm_bd_0, bv1, if_false, if_true, not_false_eq_true, not_true_eq_false, if_pos hb, if_pos hq, uL_nil, z, h2]
theorem ans_sz {m : Nat → Nat → Int32} {j d : Nat} {L : List Int32} {v : Int32} (h : jm_K (d + 7) md_X1_sizeOf [.ref 215, .int (nI j), .int (nI 0)] (jm_mk (tL m [])) = some (some (.int v), jm_mk (tL m L))) : jm_K (d + 8) md_X1_answer [.ref 215, .int (nI j), .int (nI 0)] (jm_mk m) = some (some (.int v), jm_mk (tL m L)) := by
  show jm_R (d + 8) md_X1_answer 0 [.ref 215, .int (nI j), .int (nI 0)] [] _ = _
  simp only [e_X1_answer_0, e_X1_answer_1, e_X1_answer_2, e_X1_answer_5, e_X1_answer_6, e_X1_answer_9, e_X1_answer_10, e_X1_answer_11, e_X1_answer_12, e_X1_answer_15, e_X1_answer_18, e_X1_answer_19, e_X1_answer_20, e_X1_answer_21, e_X1_answer_24, tL_nil, if_true, h, jm_bd_v]
theorem ans_mk {m : Nat → Nat → Int32} {j d : Nat} {L : List Int32} {v : Int32} (h : jm_K (d + 7) md_X1_markOf [.ref 215, .int (nI j), .int (nI 0)] (jm_mk (tL m [])) = some (some (.int v), jm_mk (tL m L))) : jm_K (d + 8) md_X1_answer [.ref 215, .int (nI j), .int (nI 1)] (jm_mk m) = some (some (.int v), jm_mk (tL m L)) := by
  show jm_R (d + 8) md_X1_answer 0 [.ref 215, .int (nI j), .int (nI 1)] [] _ = _
  simp only [e_X1_answer_0, e_X1_answer_1, e_X1_answer_2, e_X1_answer_5, e_X1_answer_6, e_X1_answer_9, e_X1_answer_10, e_X1_answer_11, e_X1_answer_12, e_X1_answer_15, e_X1_answer_18, e_X1_answer_19, e_X1_answer_20, e_X1_answer_21, e_X1_answer_24, tL_nil, bv1, if_false, h, jm_bd_v]
theorem api_ask (b q : Int32) : Api md_X6_ask md_X7_ask [.int b, .int q] := by
  intro m hR
  obtain ⟨C, N, hC6, hN6, c6, m4, c5, m3, hcase⟩ := hR.isle
  have hI : jm_ia 200 = true := by decide
  by_cases hb : ¬ b < nI 0 ∧ ¬ nI N ≤ b
  · by_cases hq : ¬ q < nI 0 ∧ ¬ nI 1 < q
    · obtain ⟨j, hj, rfl⟩ := ix_of hb (by omega)
      obtain ⟨p, -, hp, rfl⟩ := rg_of hq (by omega) (by omega)
      rcases hcase with ⟨z, -⟩ | ⟨-, q2, g⟩
      · omega
      have hj6 : j < 6 := by omega
      obtain ⟨o, hv, hr⟩ := g
      obtain ⟨s, s1, s2, s3⟩ := (hv.2.2.2.2.2.2 j hj).1
      have s4 : m 202 j = nI s := by rw [show m 202 j = m 221 (14 + j) from (hr.2.2 j hj).1]; exact s3
      have e3 : m 203 j = m 221 (32 + j) := (hr.2.2 j hj).2.1
      have e5 : m 205 j = m 221 (26 + j) := (hr.2.2 j hj).2.2.2.1
      have tt : ∀ L, tL m L 221 = m 221 := fun L => tL_o (by decide) (by decide)
      rcases (by omega : p = 0 ∨ p = 1) with rfl | rfl
      · rcases (by omega : s = 1 ∨ s = 2 ∨ s = 3 ∨ s = 4 ∨ s = 5) with rfl | rfl | rfl | rfl | rfl
        · have a1 := sz_1 (d := 5) (m := m) (L := []) (p := 0) hj6 s4 (by decide) (by decide)
          have a2 := u_sz1 (d := 5) (m := tL m ([] ++ [nI 11] ++ [nI 10] ++ [nI 21] ++ [nI 20])) (L := []) hj6 (by rw [tt]; exact s3) (by decide)
          rw [tt, ← e3, ← e5] at a2
          exact ask_one (C := C) (L := [] ++ [nI 11] ++ [nI 10] ++ [nI 21] ++ [nI 20]) hR hj hN6 c6 m4 hb hq (by decide) (by rw [if_neg (by decide)]; exact ans_sz (d := 3) a1) (by rw [if_pos rfl]; exact a2)
        · have a1 := sz_2 (d := 3) (m := m) (L := []) (p := 0) hj6 s4 (by decide) (by decide)
          have a2 := u_sz2 (d := 5) (m := tL m ([] ++ [nI 12] ++ [nI 11] ++ [nI 10] ++ [nI 24] ++ [nI 21] ++ [nI 20])) (L := []) hj6 (by rw [tt]; exact s3) (by decide)
          rw [tt, ← e3, ← e5] at a2
          exact ask_one (C := C) (L := [] ++ [nI 12] ++ [nI 11] ++ [nI 10] ++ [nI 24] ++ [nI 21] ++ [nI 20]) hR hj hN6 c6 m4 hb hq (by decide) (by rw [if_neg (by decide)]; exact ans_sz (d := 3) a1) (by rw [if_pos rfl]; exact a2)
        · have a1 := sz_3 (d := 4) (m := m) (L := []) (p := 0) hj6 s4 (by decide) (by decide)
          have a2 := u_sz3 (d := 5) (m := tL m ([] ++ [nI 11] ++ [nI 10] ++ [nI 22] ++ [nI 21] ++ [nI 20])) (L := []) hj6 (by rw [tt]; exact s3) (by decide)
          rw [tt, ← e3, ← e5] at a2
          exact ask_one (C := C) (L := [] ++ [nI 11] ++ [nI 10] ++ [nI 22] ++ [nI 21] ++ [nI 20]) hR hj hN6 c6 m4 hb hq (by decide) (by rw [if_neg (by decide)]; exact ans_sz (d := 3) a1) (by rw [if_pos rfl]; exact a2)
        · have a1 := sz_4 (d := 7) (m := m) (L := []) (p := 0) hj6 s4 (by decide) (by decide)
          have a2 := u_sz4 (d := 5) (m := tL m ([] ++ [nI 13] ++ [nI 10])) (L := []) hj6 (by rw [tt]; exact s3) (by decide)
          rw [tt, ← e5] at a2
          exact ask_one (C := C) (L := [] ++ [nI 13] ++ [nI 10]) hR hj hN6 c6 m4 hb hq (by decide) (by rw [if_neg (by decide)]; exact ans_sz (d := 3) a1) (by rw [if_pos rfl]; exact a2)
        · have a1 := sz_5 (d := 6) (m := m) (L := []) (p := 0) hj6 s4 (by decide) (by decide)
          have a2 := u_sz5 (d := 5) (m := tL m ([] ++ [nI 14] ++ [nI 13] ++ [nI 10])) (L := []) hj6 (by rw [tt]; exact s3) (by decide)
          rw [tt, ← e5] at a2
          exact ask_one (C := C) (L := [] ++ [nI 14] ++ [nI 13] ++ [nI 10]) hR hj hN6 c6 m4 hb hq (by decide) (by rw [if_neg (by decide)]; exact ans_sz (d := 3) a1) (by rw [if_pos rfl]; exact a2)
      · rcases (by omega : s = 1 ∨ s = 2 ∨ s = 3 ∨ s = 4 ∨ s = 5) with rfl | rfl | rfl | rfl | rfl
        · have a1 := mk_1 (d := 7) (m := m) (L := []) (p := 0) hj6 s4 (by decide) (by decide)
          have a2 := u_mk1 (d := 7) (m := tL m ([] ++ [nI 21] ++ [nI 20])) (L := []) hj6 (by rw [tt]; exact s3) (by decide)
          rw [tt, ← e3] at a2
          exact ask_one (C := C) (L := [] ++ [nI 21] ++ [nI 20]) hR hj hN6 c6 m4 hb hq (by decide) (by rw [if_pos rfl]; exact ans_mk (d := 3) a1) (by rw [if_neg bv1]; exact a2)
        · have a1 := mk_2 (d := 6) (m := m) (L := []) (p := 0) hj6 s4 (by decide) (by decide)
          have a2 := u_mk2 (d := 7) (m := tL m ([] ++ [nI 24] ++ [nI 21] ++ [nI 20])) (L := []) hj6 (by rw [tt]; exact s3) (by decide)
          rw [tt, ← e3] at a2
          exact ask_one (C := C) (L := [] ++ [nI 24] ++ [nI 21] ++ [nI 20]) hR hj hN6 c6 m4 hb hq (by decide) (by rw [if_pos rfl]; exact ans_mk (d := 3) a1) (by rw [if_neg bv1]; exact a2)
        · have a1 := mk_3 (d := 6) (m := m) (L := []) (p := 0) hj6 s4 (by decide) (by decide)
          have a2 := u_mk3 (d := 7) (m := tL m ([] ++ [nI 22] ++ [nI 21] ++ [nI 20])) (L := []) hj6 (by rw [tt]; exact s3) (by decide)
          rw [tt, ← e3] at a2
          exact ask_one (C := C) (L := [] ++ [nI 22] ++ [nI 21] ++ [nI 20]) hR hj hN6 c6 m4 hb hq (by decide) (by rw [if_pos rfl]; exact ans_mk (d := 3) a1) (by rw [if_neg bv1]; exact a2)
        · have a1 := mk_4 (d := 5) (m := m) (L := []) (p := 0) hj6 s4 (by decide) (by decide)
          have a2 := u_mk4 (d := 7) (m := tL m ([] ++ [nI 23] ++ [nI 20] ++ [nI 13] ++ [nI 10])) (L := []) hj6 (by rw [tt]; exact s3) (by decide)
          rw [tt, ← e5] at a2
          exact ask_one (C := C) (L := [] ++ [nI 23] ++ [nI 20] ++ [nI 13] ++ [nI 10]) hR hj hN6 c6 m4 hb hq (by decide) (by rw [if_pos rfl]; exact ans_mk (d := 3) a1) (by rw [if_neg bv1]; exact a2)
        · have a1 := mk_5 (d := 4) (m := m) (L := []) (p := 0) hj6 s4 (by decide) (by decide)
          have a2 := u_mk5 (d := 7) (m := tL m ([] ++ [nI 23] ++ [nI 20] ++ [nI 14] ++ [nI 13] ++ [nI 10])) (L := []) hj6 (by rw [tt]; exact s3) (by decide)
          rw [tt, ← e5] at a2
          exact ask_one (C := C) (L := [] ++ [nI 23] ++ [nI 20] ++ [nI 14] ++ [nI 13] ++ [nI 10]) hR hj hN6 c6 m4 hb hq (by decide) (by rw [if_pos rfl]; exact ans_mk (d := 3) a1) (by rw [if_neg bv1]; exact a2)
    · refine Api.bad hR (r := .int (-1000001)) ?_ ?_
      · show jm_R 12 md_X6_ask 0 [.ref 0, .int b, .int q] [] _ = _
        simp only [e_X6_ask_0, e_X6_ask_1, e_X6_ask_4, e_X6_ask_5, e_X6_ask_8, e_X6_ask_11, e_X6_ask_12, e_X6_ask_13, e_X6_ask_14, e_X6_ask_17, e_X6_ask_20, e_X6_ask_22, e_X6_ask_23, e_X6_ask_24, e_X6_ask_27, e_X6_ask_28, e_X6_ask_29, e_X6_ask_30, e_X6_ask_33, e_X6_ask_34, e_X6_ask_37, e_X6_ask_38, e_X6_ask_41, k_X2_hasBoat hI, k_X2_stands hI, k_X2_hasCell hI, c6, c5, k_X6_within, jm_bd_v, jm_bd_0, bv1, if_false, if_true, not_false_eq_true, not_true_eq_false, if_pos hb, if_neg hq]
      · show jm_R 12 md_X7_ask 0 [.ref 217, .int b, .int q] [] _ = _
        simp only [e_X7_ask_0, e_X7_ask_1, e_X7_ask_2, e_X7_ask_5, e_X7_ask_8, e_X7_ask_9, e_X7_ask_10, e_X7_ask_11, e_X7_ask_12, e_X7_ask_15, e_X7_ask_18, e_X7_ask_20, e_X7_ask_21, e_X7_ask_22, e_X7_ask_23, e_X7_ask_26, e_X7_ask_27, e_X7_ask_30, e_X7_ask_31, e_X7_ask_32, e_X7_ask_35, e_X7_ask_38, e_X7_ask_39, e_X7_ask_40, e_X7_ask_43, k_X7_isBoat m4 hN6, in_0_1, jm_bd_v, jm_bd_0, bv1, if_false, if_true, not_false_eq_true, not_true_eq_false, if_pos hb, if_neg hq]
  · refine Api.bad hR (r := .int (-1000001)) ?_ ?_
    · show jm_R 12 md_X6_ask 0 [.ref 0, .int b, .int q] [] _ = _
      simp only [e_X6_ask_0, e_X6_ask_1, e_X6_ask_4, e_X6_ask_5, e_X6_ask_8, e_X6_ask_11, e_X6_ask_12, e_X6_ask_13, e_X6_ask_14, e_X6_ask_17, e_X6_ask_20, e_X6_ask_22, e_X6_ask_23, e_X6_ask_24, e_X6_ask_27, e_X6_ask_28, e_X6_ask_29, e_X6_ask_30, e_X6_ask_33, e_X6_ask_34, e_X6_ask_37, e_X6_ask_38, e_X6_ask_41, k_X2_hasBoat hI, k_X2_stands hI, k_X2_hasCell hI, c6, c5, k_X6_within, jm_bd_v, jm_bd_0, bv1, if_false, if_true, not_false_eq_true, not_true_eq_false, if_neg hb]
    · show jm_R 12 md_X7_ask 0 [.ref 217, .int b, .int q] [] _ = _
      simp only [e_X7_ask_0, e_X7_ask_1, e_X7_ask_2, e_X7_ask_5, e_X7_ask_8, e_X7_ask_9, e_X7_ask_10, e_X7_ask_11, e_X7_ask_12, e_X7_ask_15, e_X7_ask_18, e_X7_ask_20, e_X7_ask_21, e_X7_ask_22, e_X7_ask_23, e_X7_ask_26, e_X7_ask_27, e_X7_ask_30, e_X7_ask_31, e_X7_ask_32, e_X7_ask_35, e_X7_ask_38, e_X7_ask_39, e_X7_ask_40, e_X7_ask_43, k_X7_isBoat m4 hN6, jm_bd_v, jm_bd_0, bv1, if_false, if_true, not_false_eq_true, not_true_eq_false, if_neg hb]
