/-! ahead, owner, held -/
theorem bv1 : ¬ nI 1 = nI 0 := by decide
theorem api_ahead (b n : Int32) : Api md_X6_ahead md_X7_ahead [.int b, .int n] := by
  refine Api.ask (fun m hR => ?_)
  obtain ⟨C, N, hC6, hN6, c6, m4, c5, m3, hcase⟩ := hR.isle
  have hI : jm_ia 200 = true := by decide
  by_cases hb : ¬ b < nI 0 ∧ ¬ nI N ≤ b
  · by_cases hn : ¬ n < nI 0 ∧ ¬ nI 60 < n
    · obtain ⟨j, hj, rfl⟩ := ix_of hb (by omega)
      obtain ⟨k, -, hk, rfl⟩ := rg_of hn (by omega) (by omega)
      rcases hcase with ⟨q, -⟩ | ⟨-, q2, g⟩
      · omega
      have hj6 : j < 6 := by omega
      have hj32 : 32 + j < 44 := by omega
      have hbe := k_X4_behind (d := 7) (m := m) (n := k) (by omega) g.gx
      have gx := (g.bec (w := vwI m 208)).steps k
      generalize becI (vwI m 208) (vwI m 200) = x at hbe gx
      refine ⟨.int (pasN x k 3 j), wrI m 208 (pasN x k), wrA (wrA (wrI m 208 (pasN x k)) 226 (cp44 (m 221) (wrI m 208 (pasN x k) 226))) 221 (cp44 (cp44 (m 221) (wrI m 208 (pasN x k) 226)) (ohN (m 221) k)), ?_, ?_, ?_⟩
      · show jm_R 12 md_X6_ahead 0 [.ref 0, .int (nI j), .int (nI k)] [] _ = _
        simp only [e_X6_ahead_0, e_X6_ahead_1, e_X6_ahead_4, e_X6_ahead_5, e_X6_ahead_8, e_X6_ahead_11, e_X6_ahead_12, e_X6_ahead_13, e_X6_ahead_15, e_X6_ahead_18, e_X6_ahead_21, e_X6_ahead_23, e_X6_ahead_24, e_X6_ahead_25, e_X6_ahead_28, e_X6_ahead_29, e_X6_ahead_32, e_X6_ahead_35, e_X6_ahead_36, e_X6_ahead_37, hI, k_X2_hasBoat hI, c6, k_X6_within, jm_bd_v, if_pos hb, if_pos hn, bv1, if_false, hbe, not_false_eq_true, if_true, show jm_ia 208 = true by decide, hj6, wrI_3]
      · show jm_R 12 md_X7_ahead 0 [.ref 217, .int (nI j), .int (nI k), .null] [] _ = _
        have e4 : wrI m 208 (pasN x k) 221 4 = nI N := by rw [wrI_o (by decide)]; exact m4
        conv => lhs; rw [← wr2_self (m := wrI m 208 (pasN x k))]
        have e5 := k_X7_isBoat (d := 10) (m := wrA (wrA (wrI m 208 (pasN x k)) 226 (wrI m 208 (pasN x k) 226)) 221 (wrI m 208 (pasN x k) 221)) (b := nI j) (by rw [wrA_at]; exact e4) hN6
        rw [wrI_o (show ¬ (208 ≤ 221 ∧ 221 < 215) by decide)] at e5 ⊢
        have e6 := k_X7_goOn (d := 7) (m := wrA (wrI m 208 (pasN x k)) 226 (cp44 (m 221) (wrI m 208 (pasN x k) 226))) (y := m 221) (n := k) (by omega) g.gx.y
        simp only [e_X7_ahead_0, e_X7_ahead_1, e_X7_ahead_2, e_X7_ahead_5, e_X7_ahead_8, e_X7_ahead_9, e_X7_ahead_10, e_X7_ahead_11, e_X7_ahead_14, e_X7_ahead_17, e_X7_ahead_20, e_X7_ahead_22, e_X7_ahead_23, e_X7_ahead_24, e_X7_ahead_27, e_X7_ahead_28, e_X7_ahead_29, e_X7_ahead_32, e_X7_ahead_33, e_X7_ahead_36, e_X7_ahead_38, e_X7_ahead_39, e_X7_ahead_40, e_X7_ahead_41, e_X7_ahead_42, e_X7_ahead_43, e_X7_ahead_46, e_X7_ahead_47, e5, k_X7_inN (show 0 < 2 ^ 31 by decide) (show 60 < 2 ^ 31 by decide), jm_bd_v, jm_bd_0, if_pos hb, if_pos hn, bv1, if_false, if_true, not_false_eq_true, k_X7_putAside, e6, nI_add, hj32, wrA_at, k_X7_takeBack]
        obtain ⟨o, -, hr⟩ := gx
        rw [(hr.2.2 j hj).2.1]
      · refine AG.trans AG_wrI (AG_wr2 (fun j hj => ?_))
        rw [cp44_lt hj, cp44_lt hj, wrI_o (by decide)]
    · refine ⟨.int (-1000001), m, m, ?_, ?_, AG.refl⟩
      · show jm_R 12 md_X6_ahead 0 [.ref 0, .int b, .int n] [] _ = _
        simp only [e_X6_ahead_0, e_X6_ahead_1, e_X6_ahead_4, e_X6_ahead_5, e_X6_ahead_8, e_X6_ahead_11, e_X6_ahead_12, e_X6_ahead_13, e_X6_ahead_15, e_X6_ahead_18, e_X6_ahead_21, e_X6_ahead_23, e_X6_ahead_24, e_X6_ahead_25, e_X6_ahead_28, e_X6_ahead_29, e_X6_ahead_32, e_X6_ahead_35, e_X6_ahead_36, e_X6_ahead_37, hI, k_X2_hasBoat hI, c6, k_X6_within, jm_bd_v, if_pos hb, if_neg hn, bv1, if_false, not_true_eq_false, if_true]
      · show jm_R 12 md_X7_ahead 0 [.ref 217, .int b, .int n, .null] [] _ = _
        simp only [e_X7_ahead_0, e_X7_ahead_1, e_X7_ahead_2, e_X7_ahead_5, e_X7_ahead_8, e_X7_ahead_9, e_X7_ahead_10, e_X7_ahead_11, e_X7_ahead_14, e_X7_ahead_17, e_X7_ahead_20, e_X7_ahead_22, e_X7_ahead_23, e_X7_ahead_24, e_X7_ahead_27, e_X7_ahead_28, e_X7_ahead_29, e_X7_ahead_32, e_X7_ahead_33, e_X7_ahead_36, e_X7_ahead_38, e_X7_ahead_39, e_X7_ahead_40, e_X7_ahead_41, e_X7_ahead_42, e_X7_ahead_43, e_X7_ahead_46, e_X7_ahead_47, k_X7_isBoat m4 hN6, k_X7_inN (show 0 < 2 ^ 31 by decide) (show 60 < 2 ^ 31 by decide), jm_bd_v, if_pos hb, if_neg hn, bv1, if_false, if_true, not_true_eq_false]
  · refine ⟨.int (-1000001), m, m, ?_, ?_, AG.refl⟩
    · show jm_R 12 md_X6_ahead 0 [.ref 0, .int b, .int n] [] _ = _
      simp only [e_X6_ahead_0, e_X6_ahead_1, e_X6_ahead_4, e_X6_ahead_5, e_X6_ahead_8, e_X6_ahead_11, e_X6_ahead_12, e_X6_ahead_13, e_X6_ahead_15, e_X6_ahead_18, e_X6_ahead_21, e_X6_ahead_23, e_X6_ahead_24, e_X6_ahead_25, e_X6_ahead_28, e_X6_ahead_29, e_X6_ahead_32, e_X6_ahead_35, e_X6_ahead_36, e_X6_ahead_37, hI, k_X2_hasBoat hI, c6, jm_bd_v, if_neg hb, if_true]
    · show jm_R 12 md_X7_ahead 0 [.ref 217, .int b, .int n, .null] [] _ = _
      simp only [e_X7_ahead_0, e_X7_ahead_1, e_X7_ahead_2, e_X7_ahead_5, e_X7_ahead_8, e_X7_ahead_9, e_X7_ahead_10, e_X7_ahead_11, e_X7_ahead_14, e_X7_ahead_17, e_X7_ahead_20, e_X7_ahead_22, e_X7_ahead_23, e_X7_ahead_24, e_X7_ahead_27, e_X7_ahead_28, e_X7_ahead_29, e_X7_ahead_32, e_X7_ahead_33, e_X7_ahead_36, e_X7_ahead_38, e_X7_ahead_39, e_X7_ahead_40, e_X7_ahead_41, e_X7_ahead_42, e_X7_ahead_43, e_X7_ahead_46, e_X7_ahead_47, k_X7_isBoat m4 hN6, jm_bd_v, if_neg hb, if_true]
