theorem thereOf {m : Nat → Nat → Int32} (h : m 217 4 = nI 1) : ¬ m 217 4 = nI 0 := by rw [h]; exact bv1
theorem stN {N : Nat} (h : 0 < N) (h6 : N ≤ 6) : ¬ nI N ≤ nI 0 := nI_ge h (by omega)
theorem api_stand (w : Int32) : Api md_X6_stand md_X7_stand [.int w] := by
  refine Api.ask (fun m hR => ?_)
  obtain ⟨C, N, hC6, hN6, c6, m4, c5, m3, hcase⟩ := hR.isle
  have hI : jm_ia 200 = true := by decide
  rcases hcase with ⟨q0, q1, q2⟩ | ⟨q0, q2, g⟩
  · subst q0
    refine ⟨.int (-1000002), m, m, ?_, ?_, AG.refl⟩
    · show jm_R 12 md_X6_stand 0 [.ref 0, .int w] [] _ = _
      simp only [e_X6_stand_0, e_X6_stand_1, e_X6_stand_4, e_X6_stand_7, e_X6_stand_10, e_X6_stand_12, e_X6_stand_13, e_X6_stand_14, e_X6_stand_52, e_X6_stand_53, e_X6_stand_56, e_X6_stand_57, e_X6_stand_60, e_X6_stand_61, e_X6_stand_62, e_X6_stand_65, e_X6_stand_66, e_X6_stand_69, e_X6_stand_72, e_X6_stand_73, e_X6_stand_74, e_X6_stand_77, e_X6_stand_80, e_X6_stand_83, e_X6_stand_84, e_X6_stand_85, e_X6_stand_88, e_X6_stand_91, e_X6_stand_92, e_X6_stand_93, e_X6_stand_96, e_X6_stand_99, e_X6_stand_100, e_X6_stand_101, e_X6_stand_104, e_X6_stand_107, e_X6_stand_108, e_X6_stand_110, k_X2_stands hI, c6, jm_bd_v, nI_le (Nat.le_refl 0) (by decide), if_true, not_true_eq_false, if_false]
    · show jm_R 12 md_X7_stand 0 [.ref 217, .int w] [] _ = _
      simp only [e_X7_stand_0, e_X7_stand_1, e_X7_stand_4, e_X7_stand_7, e_X7_stand_9, e_X7_stand_10, e_X7_stand_11, e_X7_stand_48, e_X7_stand_49, e_X7_stand_50, e_X7_stand_53, e_X7_stand_54, e_X7_stand_55, e_X7_stand_58, e_X7_stand_59, e_X7_stand_60, e_X7_stand_61, e_X7_stand_64, e_X7_stand_65, e_X7_stand_66, e_X7_stand_69, e_X7_stand_72, e_X7_stand_73, e_X7_stand_76, e_X7_stand_77, e_X7_stand_78, e_X7_stand_79, e_X7_stand_82, e_X7_stand_83, e_X7_stand_84, e_X7_stand_87, e_X7_stand_88, e_X7_stand_89, e_X7_stand_90, e_X7_stand_91, e_X7_stand_94, e_X7_stand_96, e_X7_stand_97, e_X7_stand_98, e_X7_stand_99, e_X7_stand_102, e_X7_stand_103, e_X7_stand_105, q2, not_true_eq_false, if_false]
  · have hs0 := q_water (d := 11) (k := nI 0) hI g
    have hs1 := q_shows (d := 10) (k := nI 0) hI g
    have hs2 := q_mdry (d := 10) (k := m 221 5) g
    have hs3 := q_mwater (d := 11) (k := m 221 5) g
    have hs4 := q_there (d := 11) (m := m) (a := 200) hI c6 hN6
    have hs5 := q_mthere (d := 11) g
    have hsh := g.sh0
    obtain ⟨o, hv, hr⟩ := g
    have hwt := lock_wat (k := nI 0) hr
    rw [add0] at hwt
    rw [hwt] at hs0
    have b4 : m 200 4 = m 221 7 := hr.1.2.2.2.2.1
    have b2 : m 200 2 = m 221 2 := hr.1.2.2.1
    have b7 : m 200 7 = m 221 6 := hr.1.2.2.2.2.2.2.2
    have b8 : thrL (m (200 + 3)) N 0 (nI 0) = thrL (fun b => m 221 (32 + b)) N 0 (nI 0) := thrL_congr (fun j h1 h2 => (hr.2.2 j (by omega)).2.1)
    rw [b8] at hs4
    have hs6 := q_ownerNow (d := 11) (m := m) hv.2.2.2.2.2.1.1 hv.2.2.2.2.2.1.2 hN6
    have b9 : m 221 7 = ovI o := hv.2.2.2.2.2.1.1
    have hst := stN q0 hN6
    have hth := thereOf q2
    refine ⟨.int (if w = nI 0 then watM (m 221) (m 221 5) else if w = nI 1 then (if dryMs (m 221) (watM (m 221) (m 221 5)) C 0 (nI 0) = nI 0 then nI 0 else nI 1) else if w = nI 2 then (if ovI o = -1 then -1000000 else ovI o) else if w = nI 3 then m 221 2 else if w = nI 4 then m 221 6 else if w = nI 5 then thrL (fun b => m 221 (32 + b)) N 0 (nI 0) else -1000001), m, m, ?_, ?_, AG.refl⟩
    · show jm_R 12 md_X6_stand 0 [.ref 0, .int w] [] _ = _
      have hsx : (if shwL (vwI m 200 1) (watI (vwI m 200) (nI 0)) C 0 = true then nI 1 else nI 0) = (if dryMs (m 221) (watM (m 221) (m 221 5)) C 0 (nI 0) = nI 0 then nI 0 else nI 1) := by
        by_cases q : dryMs (m 221) (watM (m 221) (m 221 5)) C 0 (nI 0) = nI 0
        · rw [if_pos q, if_neg (by rw [hsh.mp q]; decide)]
        · rw [if_neg q, if_pos]
          cases e : shwL (vwI m 200 1) (watI (vwI m 200) (nI 0)) C 0 with
          | true => rfl
          | false => exact absurd (hsh.mpr e) q
      rw [hsx] at hs1
      simp only [e_X6_stand_0, e_X6_stand_1, e_X6_stand_4, e_X6_stand_7, e_X6_stand_10, e_X6_stand_12, e_X6_stand_13, e_X6_stand_14, e_X6_stand_52, e_X6_stand_53, e_X6_stand_56, e_X6_stand_57, e_X6_stand_60, e_X6_stand_61, e_X6_stand_62, e_X6_stand_65, e_X6_stand_66, e_X6_stand_69, e_X6_stand_72, e_X6_stand_73, e_X6_stand_74, e_X6_stand_77, e_X6_stand_80, e_X6_stand_83, e_X6_stand_84, e_X6_stand_85, e_X6_stand_88, e_X6_stand_91, e_X6_stand_92, e_X6_stand_93, e_X6_stand_96, e_X6_stand_99, e_X6_stand_100, e_X6_stand_101, e_X6_stand_104, e_X6_stand_107, e_X6_stand_108, e_X6_stand_110, k_X2_stands hI, c6, jm_bd_v, hst, if_false, bv1, not_false_eq_true, if_true, hI, hs0, hs1, hs4, b4, b2, b7, b9, k_X6_boatOrNone, k_X6_bit]
      by_cases c0 : w = nI 0
      · simp only [if_pos c0]
      · by_cases c1 : w = nI 1
        · simp only [if_neg c0, if_pos c1]
          by_cases q : dryMs (m 221) (watM (m 221) (m 221 5)) C 0 (nI 0) = nI 0
          · simp only [if_pos q, if_true]
          · simp only [if_neg q, bv1, if_false]
        · by_cases c2 : w = nI 2
          · simp only [if_neg c0, if_neg c1, if_pos c2]
          · by_cases c3 : w = nI 3
            · simp only [if_neg c0, if_neg c1, if_neg c2, if_pos c3]
            · by_cases c4 : w = nI 4
              · simp only [if_neg c0, if_neg c1, if_neg c2, if_neg c3, if_pos c4]
              · by_cases c5 : w = nI 5
                · simp only [if_neg c0, if_neg c1, if_neg c2, if_neg c3, if_neg c4, if_pos c5]
                · simp only [if_neg c0, if_neg c1, if_neg c2, if_neg c3, if_neg c4, if_neg c5]
    · show jm_R 12 md_X7_stand 0 [.ref 217, .int w] [] _ = _
      simp only [e_X7_stand_0, e_X7_stand_1, e_X7_stand_4, e_X7_stand_7, e_X7_stand_9, e_X7_stand_10, e_X7_stand_11, e_X7_stand_48, e_X7_stand_49, e_X7_stand_50, e_X7_stand_53, e_X7_stand_54, e_X7_stand_55, e_X7_stand_58, e_X7_stand_59, e_X7_stand_60, e_X7_stand_61, e_X7_stand_64, e_X7_stand_65, e_X7_stand_66, e_X7_stand_69, e_X7_stand_72, e_X7_stand_73, e_X7_stand_76, e_X7_stand_77, e_X7_stand_78, e_X7_stand_79, e_X7_stand_82, e_X7_stand_83, e_X7_stand_84, e_X7_stand_87, e_X7_stand_88, e_X7_stand_89, e_X7_stand_90, e_X7_stand_91, e_X7_stand_94, e_X7_stand_96, e_X7_stand_97, e_X7_stand_98, e_X7_stand_99, e_X7_stand_102, e_X7_stand_103, e_X7_stand_105, jm_bd_v, hth, if_false, bv1, not_false_eq_true, if_true, show (5 : Nat) < 44 by decide, show (2 : Nat) < 44 by decide, show (6 : Nat) < 44 by decide, hs3, hs2, hs5, hs6]
      by_cases c0 : w = nI 0
      · simp only [if_pos c0]
      · by_cases c1 : w = nI 1
        · simp only [if_neg c0, if_pos c1]
          by_cases q : dryMs (m 221) (watM (m 221) (m 221 5)) C 0 (nI 0) = nI 0
          · simp only [if_pos q]
          · simp only [if_neg q]
        · by_cases c2 : w = nI 2
          · simp only [if_neg c0, if_neg c1, if_pos c2]
          · by_cases c3 : w = nI 3
            · simp only [if_neg c0, if_neg c1, if_neg c2, if_pos c3]
            · by_cases c4 : w = nI 4
              · simp only [if_neg c0, if_neg c1, if_neg c2, if_neg c3, if_pos c4]
              · by_cases c5 : w = nI 5
                · simp only [if_neg c0, if_neg c1, if_neg c2, if_neg c3, if_neg c4, if_pos c5]
                · simp only [if_neg c0, if_neg c1, if_neg c2, if_neg c3, if_neg c4, if_neg c5]
theorem api_held (b n : Int32) : Api md_X6_held md_X7_held [.int b, .int n] := by
  refine Api.ask (fun m hR => ?_)
  obtain ⟨C, N, hC6, hN6, c6, m4, c5, m3, hcase⟩ := hR.isle
  have hI : jm_ia 200 = true := by decide
  by_cases hb : ¬ b < nI 0 ∧ ¬ nI N ≤ b
  · by_cases hn : ¬ n < nI 0 ∧ ¬ nI 60 < n
    · obtain ⟨j, hj, rfl⟩ := ix_of hb (by omega)
      obtain ⟨k, -, hk, rfl⟩ := rg_of hn (by omega) (by omega)
      rcases hcase with ⟨q, -⟩ | ⟨-, q2, g⟩
      · omega
      have hj6 : j < 6 := by omega
      have hj32 : 38 + j < 44 := by omega
      have hbe := k_X4_behind (d := 7) (m := m) (n := k) (by omega) g.gx
      have gx := (g.bec (w := vwI m 208)).steps k
      generalize becI (vwI m 208) (vwI m 200) = x at hbe gx
      refine ⟨.int (pasN x k 6 j), wrI m 208 (pasN x k), wrA (wrA (wrI m 208 (pasN x k)) 226 (cp44 (m 221) (wrI m 208 (pasN x k) 226))) 221 (cp44 (cp44 (m 221) (wrI m 208 (pasN x k) 226)) (ohN (m 221) k)), ?_, ?_, ?_⟩
      · show jm_R 12 md_X6_held 0 [.ref 0, .int (nI j), .int (nI k)] [] _ = _
        simp only [e_X6_held_0, e_X6_held_1, e_X6_held_4, e_X6_held_5, e_X6_held_8, e_X6_held_11, e_X6_held_12, e_X6_held_13, e_X6_held_15, e_X6_held_18, e_X6_held_21, e_X6_held_23, e_X6_held_24, e_X6_held_25, e_X6_held_28, e_X6_held_29, e_X6_held_32, e_X6_held_35, e_X6_held_36, e_X6_held_37, hI, k_X2_hasBoat hI, c6, k_X6_within, jm_bd_v, if_pos hb, if_pos hn, bv1, if_false, hbe, not_false_eq_true, if_true, show jm_ia 208 = true by decide, hj6, wrI_6]
      · show jm_R 12 md_X7_held 0 [.ref 217, .int (nI j), .int (nI k), .null] [] _ = _
        have e4 : wrI m 208 (pasN x k) 221 4 = nI N := by rw [wrI_o (by decide)]; exact m4
        conv => lhs; rw [← wr2_self (m := wrI m 208 (pasN x k))]
        have e5 := k_X7_isBoat (d := 10) (m := wrA (wrA (wrI m 208 (pasN x k)) 226 (wrI m 208 (pasN x k) 226)) 221 (wrI m 208 (pasN x k) 221)) (b := nI j) (by rw [wrA_at]; exact e4) hN6
        rw [wrI_o (show ¬ (208 ≤ 221 ∧ 221 < 215) by decide)] at e5 ⊢
        have e6 := k_X7_goOn (d := 7) (m := wrA (wrI m 208 (pasN x k)) 226 (cp44 (m 221) (wrI m 208 (pasN x k) 226))) (y := m 221) (n := k) (by omega) g.gx.y
        simp only [e_X7_held_0, e_X7_held_1, e_X7_held_2, e_X7_held_5, e_X7_held_8, e_X7_held_9, e_X7_held_10, e_X7_held_11, e_X7_held_14, e_X7_held_17, e_X7_held_20, e_X7_held_22, e_X7_held_23, e_X7_held_24, e_X7_held_27, e_X7_held_28, e_X7_held_29, e_X7_held_32, e_X7_held_33, e_X7_held_36, e_X7_held_38, e_X7_held_39, e_X7_held_40, e_X7_held_41, e_X7_held_42, e_X7_held_43, e_X7_held_46, e_X7_held_47, e5, k_X7_inN (show 0 < 2 ^ 31 by decide) (show 60 < 2 ^ 31 by decide), jm_bd_v, jm_bd_0, if_pos hb, if_pos hn, bv1, if_false, if_true, not_false_eq_true, k_X7_putAside, e6, nI_add, hj32, wrA_at, k_X7_takeBack]
        obtain ⟨o, -, hr⟩ := gx
        rw [(hr.2.2 j hj).2.2.2.2]
      · refine AG.trans AG_wrI (AG_wr2 (fun j hj => ?_))
        rw [cp44_lt hj, cp44_lt hj, wrI_o (by decide)]
    · refine ⟨.int (-1000001), m, m, ?_, ?_, AG.refl⟩
      · show jm_R 12 md_X6_held 0 [.ref 0, .int b, .int n] [] _ = _
        simp only [e_X6_held_0, e_X6_held_1, e_X6_held_4, e_X6_held_5, e_X6_held_8, e_X6_held_11, e_X6_held_12, e_X6_held_13, e_X6_held_15, e_X6_held_18, e_X6_held_21, e_X6_held_23, e_X6_held_24, e_X6_held_25, e_X6_held_28, e_X6_held_29, e_X6_held_32, e_X6_held_35, e_X6_held_36, e_X6_held_37, hI, k_X2_hasBoat hI, c6, k_X6_within, jm_bd_v, if_pos hb, if_neg hn, bv1, if_false, not_true_eq_false, if_true]
      · show jm_R 12 md_X7_held 0 [.ref 217, .int b, .int n, .null] [] _ = _
        simp only [e_X7_held_0, e_X7_held_1, e_X7_held_2, e_X7_held_5, e_X7_held_8, e_X7_held_9, e_X7_held_10, e_X7_held_11, e_X7_held_14, e_X7_held_17, e_X7_held_20, e_X7_held_22, e_X7_held_23, e_X7_held_24, e_X7_held_27, e_X7_held_28, e_X7_held_29, e_X7_held_32, e_X7_held_33, e_X7_held_36, e_X7_held_38, e_X7_held_39, e_X7_held_40, e_X7_held_41, e_X7_held_42, e_X7_held_43, e_X7_held_46, e_X7_held_47, k_X7_isBoat m4 hN6, k_X7_inN (show 0 < 2 ^ 31 by decide) (show 60 < 2 ^ 31 by decide), jm_bd_v, if_pos hb, if_neg hn, bv1, if_false, if_true, not_true_eq_false]
  · refine ⟨.int (-1000001), m, m, ?_, ?_, AG.refl⟩
    · show jm_R 12 md_X6_held 0 [.ref 0, .int b, .int n] [] _ = _
      simp only [e_X6_held_0, e_X6_held_1, e_X6_held_4, e_X6_held_5, e_X6_held_8, e_X6_held_11, e_X6_held_12, e_X6_held_13, e_X6_held_15, e_X6_held_18, e_X6_held_21, e_X6_held_23, e_X6_held_24, e_X6_held_25, e_X6_held_28, e_X6_held_29, e_X6_held_32, e_X6_held_35, e_X6_held_36, e_X6_held_37, hI, k_X2_hasBoat hI, c6, jm_bd_v, if_neg hb, if_true]
    · show jm_R 12 md_X7_held 0 [.ref 217, .int b, .int n, .null] [] _ = _
      simp only [e_X7_held_0, e_X7_held_1, e_X7_held_2, e_X7_held_5, e_X7_held_8, e_X7_held_9, e_X7_held_10, e_X7_held_11, e_X7_held_14, e_X7_held_17, e_X7_held_20, e_X7_held_22, e_X7_held_23, e_X7_held_24, e_X7_held_27, e_X7_held_28, e_X7_held_29, e_X7_held_32, e_X7_held_33, e_X7_held_36, e_X7_held_38, e_X7_held_39, e_X7_held_40, e_X7_held_41, e_X7_held_42, e_X7_held_43, e_X7_held_46, e_X7_held_47, k_X7_isBoat m4 hN6, jm_bd_v, if_neg hb, if_true]
theorem api_owner (n : Int32) : Api md_X6_owner md_X7_owner [.int n] := by
  refine Api.ask (fun m hR => ?_)
  obtain ⟨C, N, hC6, hN6, c6, m4, c5, m3, hcase⟩ := hR.isle
  have hI : jm_ia 200 = true := by decide
  rcases hcase with ⟨q0, q1, q2⟩ | ⟨q0, q2, g⟩
  · subst q0
    refine ⟨.int (-1000002), m, m, ?_, ?_, AG.refl⟩
    · show jm_R 12 md_X6_owner 0 [.ref 0, .int n] [] _ = _
      simp only [e_X6_owner_0, e_X6_owner_1, e_X6_owner_4, e_X6_owner_7, e_X6_owner_10, e_X6_owner_12, e_X6_owner_13, e_X6_owner_14, e_X6_owner_15, e_X6_owner_17, e_X6_owner_20, e_X6_owner_23, e_X6_owner_25, e_X6_owner_26, e_X6_owner_27, e_X6_owner_30, e_X6_owner_31, e_X6_owner_34, e_X6_owner_37, e_X6_owner_40, k_X2_stands hI, c6, jm_bd_v, nI_le (Nat.le_refl 0) (by decide), if_true, not_true_eq_false, if_false]
    · show jm_R 12 md_X7_owner 0 [.ref 217, .int n, .null] [] _ = _
      simp only [e_X7_owner_0, e_X7_owner_1, e_X7_owner_4, e_X7_owner_7, e_X7_owner_9, e_X7_owner_10, e_X7_owner_11, e_X7_owner_12, e_X7_owner_13, e_X7_owner_16, e_X7_owner_19, e_X7_owner_22, e_X7_owner_24, e_X7_owner_25, e_X7_owner_26, e_X7_owner_29, e_X7_owner_30, e_X7_owner_31, e_X7_owner_34, e_X7_owner_35, e_X7_owner_36, e_X7_owner_39, e_X7_owner_41, e_X7_owner_44, e_X7_owner_45, q2, not_true_eq_false, if_false]
  · have hst := stN q0 hN6
    have hth := thereOf q2
    by_cases hn : ¬ n < nI 0 ∧ ¬ nI 60 < n
    · obtain ⟨k, -, hk, rfl⟩ := rg_of hn (by omega) (by omega)
      have hbe := k_X4_behind (d := 7) (m := m) (n := k) (by omega) g.gx
      have gx := (g.bec (w := vwI m 208)).steps k
      generalize becI (vwI m 208) (vwI m 200) = x at hbe gx
      obtain ⟨eo, o, eo2, eo3⟩ := gx.owner
      have eov := ov_lt eo3 hN6
      refine ⟨.int (if ovI o = -1 then -1000000 else ovI o), wrI m 208 (pasN x k), wrA (wrA (wrI m 208 (pasN x k)) 226 (cp44 (m 221) (wrI m 208 (pasN x k) 226))) 221 (cp44 (cp44 (m 221) (wrI m 208 (pasN x k) 226)) (ohN (m 221) k)), ?_, ?_, ?_⟩
      · show jm_R 12 md_X6_owner 0 [.ref 0, .int (nI k)] [] _ = _
        simp only [e_X6_owner_0, e_X6_owner_1, e_X6_owner_4, e_X6_owner_7, e_X6_owner_10, e_X6_owner_12, e_X6_owner_13, e_X6_owner_14, e_X6_owner_15, e_X6_owner_17, e_X6_owner_20, e_X6_owner_23, e_X6_owner_25, e_X6_owner_26, e_X6_owner_27, e_X6_owner_30, e_X6_owner_31, e_X6_owner_34, e_X6_owner_37, e_X6_owner_40, k_X2_stands hI, c6, k_X6_within, jm_bd_v, hst, if_pos hn, bv1, if_false, hbe, not_false_eq_true, if_true, show jm_ia 208 = true by decide, wrI_0, eo, eo2, k_X6_boatOrNone]
      · show jm_R 12 md_X7_owner 0 [.ref 217, .int (nI k), .null] [] _ = _
        have e1 : ¬ wrI m 208 (pasN x k) 217 4 = nI 0 := by rw [wrI_o (by decide)]; exact hth
        have e2 : wrA (wrA (wrI m 208 (pasN x k)) 226 (wrI m 208 (pasN x k) 226)) 221 (m 221) 217 4 = wrI m 208 (pasN x k) 217 4 := by rw [wrA_ne (by decide), wrA_ne (by decide)]
        conv => lhs; rw [← wr2_self (m := wrI m 208 (pasN x k))]
        rw [wrI_o (show ¬ (208 ≤ 221 ∧ 221 < 215) by decide)]
        have e6 := k_X7_ownerBy (d := 6) (m := wrI m 208 (pasN x k)) (z := cp44 (m 221) (wrI m 208 (pasN x k) 226)) (y := m 221) (n := k) (by omega) g.gx.y
        have e7 : (nI 0 ≤ ovI o) = ¬ ovI o = -1 := by
          rw [← eov]
          apply propext
          rw [Int32.le_iff_toInt_le, Int32.lt_iff_toInt_lt]
          omega
        simp only [e_X7_owner_0, e_X7_owner_1, e_X7_owner_4, e_X7_owner_7, e_X7_owner_9, e_X7_owner_10, e_X7_owner_11, e_X7_owner_12, e_X7_owner_13, e_X7_owner_16, e_X7_owner_19, e_X7_owner_22, e_X7_owner_24, e_X7_owner_25, e_X7_owner_26, e_X7_owner_29, e_X7_owner_30, e_X7_owner_31, e_X7_owner_34, e_X7_owner_35, e_X7_owner_36, e_X7_owner_39, e_X7_owner_41, e_X7_owner_44, e_X7_owner_45, e2, e1, k_X7_inN (show 0 < 2 ^ 31 by decide) (show 60 < 2 ^ 31 by decide), jm_bd_v, jm_bd_0, if_pos hn, bv1, if_false, if_true, not_false_eq_true, k_X7_putAside, e6, eo2, e7]
        by_cases q : ovI o = -1
        · simp only [if_pos q, if_neg (fun h : ¬ ovI o = -1 => h q)]
        · simp only [if_neg q, if_pos q]
      · refine AG.trans AG_wrI (AG_wr2 (fun j hj => ?_))
        rw [cp44_lt hj, cp44_lt hj, wrI_o (by decide)]
    · refine ⟨.int (-1000001), m, m, ?_, ?_, AG.refl⟩
      · show jm_R 12 md_X6_owner 0 [.ref 0, .int n] [] _ = _
        simp only [e_X6_owner_0, e_X6_owner_1, e_X6_owner_4, e_X6_owner_7, e_X6_owner_10, e_X6_owner_12, e_X6_owner_13, e_X6_owner_14, e_X6_owner_15, e_X6_owner_17, e_X6_owner_20, e_X6_owner_23, e_X6_owner_25, e_X6_owner_26, e_X6_owner_27, e_X6_owner_30, e_X6_owner_31, e_X6_owner_34, e_X6_owner_37, e_X6_owner_40, k_X2_stands hI, c6, k_X6_within, jm_bd_v, hst, if_neg hn, bv1, if_false, not_true_eq_false, not_false_eq_true, if_true]
      · show jm_R 12 md_X7_owner 0 [.ref 217, .int n, .null] [] _ = _
        simp only [e_X7_owner_0, e_X7_owner_1, e_X7_owner_4, e_X7_owner_7, e_X7_owner_9, e_X7_owner_10, e_X7_owner_11, e_X7_owner_12, e_X7_owner_13, e_X7_owner_16, e_X7_owner_19, e_X7_owner_22, e_X7_owner_24, e_X7_owner_25, e_X7_owner_26, e_X7_owner_29, e_X7_owner_30, e_X7_owner_31, e_X7_owner_34, e_X7_owner_35, e_X7_owner_36, e_X7_owner_39, e_X7_owner_41, e_X7_owner_44, e_X7_owner_45, hth, k_X7_inN (show 0 < 2 ^ 31 by decide) (show 60 < 2 ^ 31 by decide), jm_bd_v, if_neg hn, bv1, if_false, if_true, not_true_eq_false, not_false_eq_true]
