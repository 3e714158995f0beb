theorem api_status : Api md_X6_status md_X7_status [] := by
  refine Api.ask (fun m hR => ⟨.int (m 0 7), m, m, ?_, ?_, AG.refl⟩)
  · show jm_R 12 md_X6_status 0 [.ref 0] [] _ = _
    simp only [e_X6_status_0, e_X6_status_1, e_X6_status_4]
  · show jm_R 12 md_X7_status 0 [.ref 217] [] _ = _
    simp only [e_X7_status_0, e_X7_status_1, e_X7_status_4]
    rw [show m 0 7 = m 217 3 from hR.2.1]
theorem api_fault : Api md_X6_fault md_X7_fault [] := by
  refine Api.ask (fun m hR => ⟨.int (m 13 2), m, m, ?_, ?_, AG.refl⟩)
  · show jm_R 12 md_X6_fault 0 [.ref 0] [] _ = _
    simp only [e_X6_fault_0, e_X6_fault_1, e_X6_fault_4, e_X6_fault_7]
  · show jm_R 12 md_X7_fault 0 [.ref 217] [] _ = _
    simp only [e_X7_fault_0, e_X7_fault_1, e_X7_fault_4]
    rw [show m 13 2 = m 217 9 from hR.2.2.1.1]
theorem api_kind (b : Int32) : Api md_X6_kind md_X7_kind [.int b] := by
  refine Api.ask (fun m hR => ?_)
  obtain ⟨C, N, hC6, hN6, c6, m4, c5, m3, hcase⟩ := hR.isle
  have hI : jm_ia 200 = true := by decide
  by_cases hb : ¬ b < nI 0 ∧ ¬ nI N ≤ b
  · obtain ⟨j, hj, rfl⟩ := ix_of hb (by omega)
    rcases hcase with ⟨q, -⟩ | ⟨-, q2, g⟩
    · omega
    obtain ⟨o, hv, hr⟩ := g
    have hj6 : j < 6 := by omega
    have h14 : 14 + j < 44 := by omega
    refine ⟨.int (m 202 j), m, m, ?_, ?_, AG.refl⟩
    · show jm_R 12 md_X6_kind 0 [.ref 0, .int (nI j)] [] _ = _
      simp only [e_X6_kind_0, e_X6_kind_1, e_X6_kind_4, e_X6_kind_5, e_X6_kind_8, e_X6_kind_11, e_X6_kind_12, e_X6_kind_15, e_X6_kind_18, e_X6_kind_19, e_X6_kind_20, e_X6_kind_23, e_X6_kind_25, k_X2_hasBoat hI, c6, jm_bd_v, if_pos hb, bv1, if_false, hj6]
    · show jm_R 12 md_X7_kind 0 [.ref 217, .int (nI j)] [] _ = _
      simp only [e_X7_kind_0, e_X7_kind_1, e_X7_kind_2, e_X7_kind_5, e_X7_kind_8, e_X7_kind_9, e_X7_kind_12, e_X7_kind_14, e_X7_kind_15, e_X7_kind_16, e_X7_kind_17, e_X7_kind_20, e_X7_kind_22, k_X7_isBoat m4 hN6, jm_bd_v, if_pos hb, bv1, if_false, nI_add, h14]
      rw [show m 202 j = m 221 (14 + j) from (hr.2.2 j hj).1]
  · refine ⟨.int (-1000001), m, m, ?_, ?_, AG.refl⟩
    · show jm_R 12 md_X6_kind 0 [.ref 0, .int b] [] _ = _
      simp only [e_X6_kind_0, e_X6_kind_1, e_X6_kind_4, e_X6_kind_5, e_X6_kind_8, e_X6_kind_11, e_X6_kind_12, e_X6_kind_15, e_X6_kind_18, e_X6_kind_19, e_X6_kind_20, e_X6_kind_23, e_X6_kind_25, k_X2_hasBoat hI, c6, jm_bd_v, if_neg hb, if_true]
    · show jm_R 12 md_X7_kind 0 [.ref 217, .int b] [] _ = _
      simp only [e_X7_kind_0, e_X7_kind_1, e_X7_kind_2, e_X7_kind_5, e_X7_kind_8, e_X7_kind_9, e_X7_kind_12, e_X7_kind_14, e_X7_kind_15, e_X7_kind_16, e_X7_kind_17, e_X7_kind_20, e_X7_kind_22, k_X7_isBoat m4 hN6, jm_bd_v, if_neg hb, if_true]
theorem api_trace (i : Int32) : Api md_X6_trace md_X7_trace [.int i] := by
  refine Api.ask (fun m hR => ?_)
  obtain ⟨t, t1, t2, t3, t4⟩ := hR.2.2.2.2.2.2
  have et : (nI t - nI 1 < i) = (nI t ≤ i) := by
    apply propext
    rw [Int32.lt_iff_toInt_lt, Int32.le_iff_toInt_le, nI_toInt (by omega), pk_sub_toInt (by omega) (by omega)]
    omega
  by_cases hb : ¬ i < nI 0 ∧ ¬ nI t ≤ i
  · obtain ⟨j, hj, rfl⟩ := ix_of hb (by omega)
    have hj16 : j < 16 := by omega
    refine ⟨.int (m 216 j), m, m, ?_, ?_, AG.refl⟩
    · show jm_R 12 md_X6_trace 0 [.ref 0, .int (nI j)] [] _ = _
      simp only [e_X6_trace_0, e_X6_trace_1, e_X6_trace_2, e_X6_trace_3, e_X6_trace_6, e_X6_trace_9, e_X6_trace_10, e_X6_trace_11, e_X6_trace_14, e_X6_trace_17, e_X6_trace_18, e_X6_trace_21, e_X6_trace_24, e_X6_trace_25, e_X6_trace_26, e_X6_trace_29, e_X6_trace_31, t2, k_X6_within, et, jm_bd_v, if_pos hb, bv1, if_false, hj16]
    · show jm_R 12 md_X7_trace 0 [.ref 217, .int (nI j)] [] _ = _
      simp only [e_X7_trace_0, e_X7_trace_1, e_X7_trace_2, e_X7_trace_3, e_X7_trace_4, e_X7_trace_7, e_X7_trace_8, e_X7_trace_9, e_X7_trace_10, e_X7_trace_13, e_X7_trace_16, e_X7_trace_17, e_X7_trace_20, e_X7_trace_21, e_X7_trace_22, e_X7_trace_25, e_X7_trace_27, t3, lN_64 (show 0 < 2 ^ 31 by decide), k_X7_inI, et, jm_bd_v, if_pos hb, bv1, if_false, hj16]
      rw [t4 j hj]
  · refine ⟨.int (-1000000), m, m, ?_, ?_, AG.refl⟩
    · show jm_R 12 md_X6_trace 0 [.ref 0, .int i] [] _ = _
      simp only [e_X6_trace_0, e_X6_trace_1, e_X6_trace_2, e_X6_trace_3, e_X6_trace_6, e_X6_trace_9, e_X6_trace_10, e_X6_trace_11, e_X6_trace_14, e_X6_trace_17, e_X6_trace_18, e_X6_trace_21, e_X6_trace_24, e_X6_trace_25, e_X6_trace_26, e_X6_trace_29, e_X6_trace_31, t2, k_X6_within, et, jm_bd_v, if_neg hb, if_true]
    · show jm_R 12 md_X7_trace 0 [.ref 217, .int i] [] _ = _
      simp only [e_X7_trace_0, e_X7_trace_1, e_X7_trace_2, e_X7_trace_3, e_X7_trace_4, e_X7_trace_7, e_X7_trace_8, e_X7_trace_9, e_X7_trace_10, e_X7_trace_13, e_X7_trace_16, e_X7_trace_17, e_X7_trace_20, e_X7_trace_21, e_X7_trace_22, e_X7_trace_25, e_X7_trace_27, t3, lN_64 (show 0 < 2 ^ 31 by decide), k_X7_inI, et, jm_bd_v, if_neg hb, if_true]
