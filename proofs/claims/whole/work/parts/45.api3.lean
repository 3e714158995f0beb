theorem lock_way {x : Nat → Nat → Int32} {y : Nat → Int32} {C N j : Nat} {sh : Bool} {dr : Int32} (g : GN C N x y) (hs : dr = nI 0 ↔ sh = false) (hj : j < N) : wayI x j sh = wayM y j dr := by
  obtain ⟨o, hv, hr⟩ := g
  obtain ⟨-, -, -, ⟨w, v10, v11⟩, -, -, vb⟩ := hv
  obtain ⟨⟨k, k1, k2, k3⟩, -, ⟨q, q1, q2, q3⟩⟩ := vb j hj
  obtain ⟨b2, b3, b4, b5, b6⟩ := hr.2.2 j hj
  have hw := way_fin k (by omega) k1 q (by omega) w (by omega) sh
  rw [wayI_F, wayM_G, wayG_H hs, b2, b5, hr.1.2.2.1, k3, q3, v11]
  exact hw.1.symm
theorem GN.sh0 {x : Nat → Nat → Int32} {y : Nat → Int32} {C N : Nat} (g : GN C N x y) : dryMs y (watM y (y 5)) C 0 (nI 0) = nI 0 ↔ shwL (x 1) (watI x (nI 0)) C 0 = false := by
  obtain ⟨o, hv, hr⟩ := g
  have := lock_sh (k := nI 0) hr hv.1.2.2
  rwa [add0] at this
theorem api_boat (b w : Int32) : Api md_X6_boat md_X7_boat [.int b, .int w] := by
  refine Api.ask (fun m hR => ?_)
  obtain ⟨C, N, hC6, hN6, c6, m4, c5, m3, hcase⟩ := hR.isle
  have hI : jm_ia 200 = true := by decide
  by_cases hb : ¬ b < nI 0 ∧ ¬ nI N ≤ b
  · obtain ⟨j, hj, rfl⟩ := ix_of hb (by omega)
    rcases hcase with ⟨q, -⟩ | ⟨-, q2, g⟩
    · omega
    have hlw := lock_way g g.sh0 hj
    have hs0 := q_shows (d := 10) (k := nI 0) hI g
    have hs1 := q_way (d := 10) (m := m) (a := 200) (j := j) (sh := shwL (vwI m 200 1) (watI (vwI m 200) (nI 0)) C 0) hI (by omega)
    have hs2 := q_mway (d := 9) g (show j < 6 by omega)
    obtain ⟨o, hv, hr⟩ := g
    have hj6 : j < 6 := by omega
    have h32 : 32 + j < 44 := by omega
    have h26 : 26 + j < 44 := by omega
    have h38 : 38 + j < 44 := by omega
    have h20 : 20 + j < 44 := by omega
    obtain ⟨b2, b3, b4, b5, b6⟩ := hr.2.2 j hj
    have b3 : m 203 j = m 221 (32 + j) := b3
    have b4 : m 204 j = m 221 (20 + j) := b4
    have b5 : m 205 j = m 221 (26 + j) := b5
    have b6 : m 206 j = m 221 (38 + j) := b6
    have b7 : m 200 7 = m 221 6 := hr.1.2.2.2.2.2.2.2
    refine ⟨.int (if w = nI 0 then m 203 j else if w = nI 1 then m 205 j else if w = nI 2 then (if (m 221 6 >>> (nI j &&& 31)) &&& nI 1 = nI 1 then nI 1 else nI 0) else if w = nI 3 then wayM (m 221) j (dryMs (m 221) (watM (m 221) (m 221 5)) C 0 (nI 0)) else if w = nI 4 then m 206 j else if w = nI 5 then m 204 j else -1000001), m, m, ?_, ?_, AG.refl⟩
    · show jm_R 12 md_X6_boat 0 [.ref 0, .int (nI j), .int w] [] _ = _
      simp only [e_X6_boat_0, e_X6_boat_1, e_X6_boat_4, e_X6_boat_5, e_X6_boat_8, e_X6_boat_11, e_X6_boat_13, e_X6_boat_14, e_X6_boat_15, e_X6_boat_52, e_X6_boat_53, e_X6_boat_56, e_X6_boat_59, e_X6_boat_60, e_X6_boat_61, e_X6_boat_62, e_X6_boat_63, e_X6_boat_66, e_X6_boat_69, e_X6_boat_70, e_X6_boat_71, e_X6_boat_72, e_X6_boat_73, e_X6_boat_76, e_X6_boat_77, e_X6_boat_80, e_X6_boat_83, e_X6_boat_84, e_X6_boat_85, e_X6_boat_88, e_X6_boat_89, e_X6_boat_90, e_X6_boat_93, e_X6_boat_94, e_X6_boat_97, e_X6_boat_100, e_X6_boat_101, e_X6_boat_102, e_X6_boat_105, e_X6_boat_108, e_X6_boat_109, e_X6_boat_110, e_X6_boat_111, e_X6_boat_112, e_X6_boat_115, e_X6_boat_118, e_X6_boat_119, e_X6_boat_120, e_X6_boat_121, e_X6_boat_123, k_X2_hasBoat hI, c6, jm_bd_v, if_pos hb, bv1, if_false, not_false_eq_true, if_true, hj6, hI, k_X2_isSent hI, k_X6_bit, hs0, hs1, hlw, b7]
      by_cases c0 : w = nI 0
      · simp only [if_pos c0]
      · by_cases c1 : w = nI 1
        · simp only [if_neg c0, if_pos c1]
        · by_cases c2 : w = nI 2
          · simp only [if_neg c0, if_neg c1, if_pos c2]
            by_cases q : (m 221 6 >>> (nI j &&& 31)) &&& nI 1 = nI 1
            · simp only [if_pos q, bv1, if_false]
            · simp only [if_neg q, if_true]
          · by_cases c3 : w = nI 3
            · simp only [if_neg c0, if_neg c1, if_neg c2, if_pos c3]
            · by_cases c4 : w = nI 4
              · simp only [if_neg c0, if_neg c1, if_neg c2, if_neg c3, if_pos c4]
              · by_cases c5 : w = nI 5
                · simp only [if_neg c0, if_neg c1, if_neg c2, if_neg c3, if_neg c4, if_pos c5]
                · simp only [if_neg c0, if_neg c1, if_neg c2, if_neg c3, if_neg c4, if_neg c5]
    · show jm_R 12 md_X7_boat 0 [.ref 217, .int (nI j), .int w] [] _ = _
      simp only [e_X7_boat_0, e_X7_boat_1, e_X7_boat_2, e_X7_boat_5, e_X7_boat_8, e_X7_boat_10, e_X7_boat_11, e_X7_boat_12, e_X7_boat_52, e_X7_boat_53, e_X7_boat_56, e_X7_boat_58, e_X7_boat_59, e_X7_boat_60, e_X7_boat_61, e_X7_boat_62, e_X7_boat_63, e_X7_boat_66, e_X7_boat_68, e_X7_boat_69, e_X7_boat_70, e_X7_boat_71, e_X7_boat_72, e_X7_boat_73, e_X7_boat_76, e_X7_boat_78, e_X7_boat_79, e_X7_boat_80, e_X7_boat_83, e_X7_boat_86, e_X7_boat_87, e_X7_boat_90, e_X7_boat_91, e_X7_boat_92, e_X7_boat_93, e_X7_boat_94, e_X7_boat_97, e_X7_boat_98, e_X7_boat_99, e_X7_boat_102, e_X7_boat_104, e_X7_boat_105, e_X7_boat_106, e_X7_boat_107, e_X7_boat_108, e_X7_boat_109, e_X7_boat_112, e_X7_boat_114, e_X7_boat_115, e_X7_boat_116, e_X7_boat_117, e_X7_boat_118, e_X7_boat_120, k_X7_isBoat m4 hN6, jm_bd_v, if_pos hb, bv1, if_false, not_false_eq_true, if_true, nI_add, h32, h26, h38, h20, show (6 : Nat) < 44 by decide, k_X7_has, hs2, b3, b4, b5, b6]
      by_cases c0 : w = nI 0
      · simp only [if_pos c0]
      · by_cases c1 : w = nI 1
        · simp only [if_neg c0, if_pos c1]
        · by_cases c2 : w = nI 2
          · simp only [if_neg c0, if_neg c1, if_pos c2]
            by_cases q : (m 221 6 >>> (nI j &&& 31)) &&& nI 1 = nI 1
            · simp only [if_pos q, bv1, if_false]
            · simp only [if_neg q, if_true]
          · by_cases c3 : w = nI 3
            · simp only [if_neg c0, if_neg c1, if_neg c2, if_pos c3]
            · by_cases c4 : w = nI 4
              · simp only [if_neg c0, if_neg c1, if_neg c2, if_neg c3, if_pos c4]
              · by_cases c5 : w = nI 5
                · simp only [if_neg c0, if_neg c1, if_neg c2, if_neg c3, if_neg c4, if_pos c5]
                · simp only [if_neg c0, if_neg c1, if_neg c2, if_neg c3, if_neg c4, if_neg c5]
  · refine ⟨.int (-1000001), m, m, ?_, ?_, AG.refl⟩
    · show jm_R 12 md_X6_boat 0 [.ref 0, .int b, .int w] [] _ = _
      simp only [e_X6_boat_0, e_X6_boat_1, e_X6_boat_4, e_X6_boat_5, e_X6_boat_8, e_X6_boat_11, e_X6_boat_13, e_X6_boat_14, e_X6_boat_15, e_X6_boat_52, e_X6_boat_53, e_X6_boat_56, e_X6_boat_59, e_X6_boat_60, e_X6_boat_61, e_X6_boat_62, e_X6_boat_63, e_X6_boat_66, e_X6_boat_69, e_X6_boat_70, e_X6_boat_71, e_X6_boat_72, e_X6_boat_73, e_X6_boat_76, e_X6_boat_77, e_X6_boat_80, e_X6_boat_83, e_X6_boat_84, e_X6_boat_85, e_X6_boat_88, e_X6_boat_89, e_X6_boat_90, e_X6_boat_93, e_X6_boat_94, e_X6_boat_97, e_X6_boat_100, e_X6_boat_101, e_X6_boat_102, e_X6_boat_105, e_X6_boat_108, e_X6_boat_109, e_X6_boat_110, e_X6_boat_111, e_X6_boat_112, e_X6_boat_115, e_X6_boat_118, e_X6_boat_119, e_X6_boat_120, e_X6_boat_121, e_X6_boat_123, k_X2_hasBoat hI, c6, jm_bd_v, if_neg hb, not_true_eq_false, if_false, if_true]
    · show jm_R 12 md_X7_boat 0 [.ref 217, .int b, .int w] [] _ = _
      simp only [e_X7_boat_0, e_X7_boat_1, e_X7_boat_2, e_X7_boat_5, e_X7_boat_8, e_X7_boat_10, e_X7_boat_11, e_X7_boat_12, e_X7_boat_52, e_X7_boat_53, e_X7_boat_56, e_X7_boat_58, e_X7_boat_59, e_X7_boat_60, e_X7_boat_61, e_X7_boat_62, e_X7_boat_63, e_X7_boat_66, e_X7_boat_68, e_X7_boat_69, e_X7_boat_70, e_X7_boat_71, e_X7_boat_72, e_X7_boat_73, e_X7_boat_76, e_X7_boat_78, e_X7_boat_79, e_X7_boat_80, e_X7_boat_83, e_X7_boat_86, e_X7_boat_87, e_X7_boat_90, e_X7_boat_91, e_X7_boat_92, e_X7_boat_93, e_X7_boat_94, e_X7_boat_97, e_X7_boat_98, e_X7_boat_99, e_X7_boat_102, e_X7_boat_104, e_X7_boat_105, e_X7_boat_106, e_X7_boat_107, e_X7_boat_108, e_X7_boat_109, e_X7_boat_112, e_X7_boat_114, e_X7_boat_115, e_X7_boat_116, e_X7_boat_117, e_X7_boat_118, e_X7_boat_120, k_X7_isBoat m4 hN6, jm_bd_v, if_neg hb, not_true_eq_false, if_false, if_true]
theorem dry_thr {h : Nat → Int32} {w : Int32} : ∀ {k c : Nat} {s : Int32}, dryL h w k c s = thrL (fun c => if h c ≤ w then nI 1 else nI 0) k c s
  | 0, _, _ => rfl
  | k + 1, c, s => by
    rw [dryL_s, thrL_s, dry_thr]
    by_cases q : h c ≤ w
    · simp only [if_pos q, if_neg bv1]
    · simp only [if_neg q, if_true]
set_option maxRecDepth 100000 in
theorem bit_of : ∀ t, t < 64 → ∀ b, b < 6 → (nI t >>> (nI b &&& 31)) &&& nI 1 = if t.testBit b = true then nI 1 else nI 0 := by decide +kernel
theorem dry_bit {h : Nat → Int32} {w : Int32} {C c : Nat} (hC : C ≤ 6) (hc : c < C) : (dryL h w C 0 (nI 0) >>> (nI c &&& 31)) &&& nI 1 = if h c ≤ w then nI 0 else nI 1 := by
  rw [dry_thr]
  obtain ⟨e1, e2⟩ := thr_nI (f := fun c => if h c ≤ w then nI 1 else nI 0) C 0 0 (by omega) (by decide)
  have e3 := thr_bit (f := fun c => if h c ≤ w then nI 1 else nI 0) C 0 0 (by omega) (by decide) c (by omega)
  rw [e1, bit_of _ (by have := pow_le hC; rw [Nat.zero_add] at e2; omega) c (by omega)]
  by_cases q : h c ≤ w
  · rw [if_pos q, if_neg]
    rw [e3, Nat.zero_testBit]
    simp [q, bv1]
  · rw [if_neg q, if_pos]
    rw [e3]
    exact Or.inr ⟨by omega, by omega, if_neg q⟩
theorem api_cell (b w : Int32) : Api md_X6_cell md_X7_cell [.int b, .int w] := by
  refine Api.ask (fun m hR => ?_)
  obtain ⟨C, N, hC6, hN6, c6, m4, c5, m3, hcase⟩ := hR.isle
  have hI : jm_ia 200 = true := by decide
  by_cases hb : ¬ b < nI 0 ∧ ¬ nI C ≤ b
  · obtain ⟨j, hj, rfl⟩ := ix_of hb (by omega)
    rcases hcase with ⟨-, q, -⟩ | ⟨-, q2, g⟩
    · omega
    have hs0 := q_water (d := 11) (k := nI 0) hI g
    have hs2 := q_mdry (d := 10) (k := m 221 5) g
    obtain ⟨o, hv, hr⟩ := g
    have hwt := lock_wat (k := nI 0) hr
    rw [add0] at hwt
    have hj6 : j < 6 := by omega
    have h8 : 8 + j < 44 := by omega
    have b1 : m 201 j = m 221 (8 + j) := hr.2.1 j hj
    have hdb := dry_bit (h := fun c => m 221 (8 + c)) (w := watM (m 221) (m 221 5)) hC6 hj
    refine ⟨.int (if w = nI 0 then m 221 (8 + j) else if w = nI 1 then (if m 221 (8 + j) ≤ watM (m 221) (m 221 5) then nI 0 else nI 1) else -1000001), m, m, ?_, ?_, AG.refl⟩
    · show jm_R 12 md_X6_cell 0 [.ref 0, .int (nI j), .int w] [] _ = _
      simp only [e_X6_cell_0, e_X6_cell_1, e_X6_cell_4, e_X6_cell_5, e_X6_cell_8, e_X6_cell_11, e_X6_cell_13, e_X6_cell_14, e_X6_cell_15, e_X6_cell_40, e_X6_cell_41, e_X6_cell_44, e_X6_cell_47, e_X6_cell_48, e_X6_cell_49, e_X6_cell_50, e_X6_cell_51, e_X6_cell_54, e_X6_cell_57, e_X6_cell_58, e_X6_cell_59, e_X6_cell_60, e_X6_cell_63, e_X6_cell_64, e_X6_cell_67, e_X6_cell_70, e_X6_cell_71, e_X6_cell_74, e_X6_cell_75, e_X6_cell_78, e_X6_cell_79, e_X6_cell_81, k_X2_hasCell hI, c5, jm_bd_v, if_pos hb, bv1, if_false, not_false_eq_true, if_true, hj6, hs0, hwt, b1]
      by_cases c0 : w = nI 0
      · simp only [if_pos c0]
      · by_cases c1 : w = nI 1
        · simp only [if_neg c0, if_pos c1]
          by_cases q : m 221 (8 + j) ≤ watM (m 221) (m 221 5)
          · simp only [if_pos q, e_X6_cell_0, e_X6_cell_1, e_X6_cell_4, e_X6_cell_5, e_X6_cell_8, e_X6_cell_11, e_X6_cell_13, e_X6_cell_14, e_X6_cell_15, e_X6_cell_40, e_X6_cell_41, e_X6_cell_44, e_X6_cell_47, e_X6_cell_48, e_X6_cell_49, e_X6_cell_50, e_X6_cell_51, e_X6_cell_54, e_X6_cell_57, e_X6_cell_58, e_X6_cell_59, e_X6_cell_60, e_X6_cell_63, e_X6_cell_64, e_X6_cell_67, e_X6_cell_70, e_X6_cell_71, e_X6_cell_74, e_X6_cell_75, e_X6_cell_78, e_X6_cell_79, e_X6_cell_81, k_X6_bit, jm_bd_v, if_true]
          · simp only [if_neg q, e_X6_cell_0, e_X6_cell_1, e_X6_cell_4, e_X6_cell_5, e_X6_cell_8, e_X6_cell_11, e_X6_cell_13, e_X6_cell_14, e_X6_cell_15, e_X6_cell_40, e_X6_cell_41, e_X6_cell_44, e_X6_cell_47, e_X6_cell_48, e_X6_cell_49, e_X6_cell_50, e_X6_cell_51, e_X6_cell_54, e_X6_cell_57, e_X6_cell_58, e_X6_cell_59, e_X6_cell_60, e_X6_cell_63, e_X6_cell_64, e_X6_cell_67, e_X6_cell_70, e_X6_cell_71, e_X6_cell_74, e_X6_cell_75, e_X6_cell_78, e_X6_cell_79, e_X6_cell_81, k_X6_bit, jm_bd_v, if_neg bv1]
        · simp only [if_neg c0, if_neg c1]
    · show jm_R 12 md_X7_cell 0 [.ref 217, .int (nI j), .int w] [] _ = _
      simp only [e_X7_cell_0, e_X7_cell_1, e_X7_cell_2, e_X7_cell_5, e_X7_cell_8, e_X7_cell_10, e_X7_cell_13, e_X7_cell_14, e_X7_cell_17, e_X7_cell_18, e_X7_cell_21, e_X7_cell_23, e_X7_cell_24, e_X7_cell_25, e_X7_cell_26, e_X7_cell_29, e_X7_cell_30, e_X7_cell_31, e_X7_cell_34, e_X7_cell_35, e_X7_cell_36, e_X7_cell_39, e_X7_cell_40, e_X7_cell_41, e_X7_cell_44, e_X7_cell_45, e_X7_cell_46, e_X7_cell_47, e_X7_cell_48, e_X7_cell_51, e_X7_cell_53, k_X7_isCell m3 hC6, jm_bd_v, if_pos hb, bv1, if_false, not_false_eq_true, if_true, nI_add, h8, show (5 : Nat) < 44 by decide, hs2]
      unfold dryMs
      rw [hdb]
      by_cases c0 : w = nI 0
      · simp only [if_pos c0, if_neg (fun h : ¬ w = nI 0 => h c0)]
      · by_cases c1 : w = nI 1
        · simp only [if_neg c0, if_pos c0, if_pos c1, if_neg (fun h : ¬ w = nI 1 => h c1)]
        · simp only [if_neg c0, if_pos c0, if_neg c1, if_pos c1]
  · refine ⟨.int (-1000001), m, m, ?_, ?_, AG.refl⟩
    · show jm_R 12 md_X6_cell 0 [.ref 0, .int b, .int w] [] _ = _
      simp only [e_X6_cell_0, e_X6_cell_1, e_X6_cell_4, e_X6_cell_5, e_X6_cell_8, e_X6_cell_11, e_X6_cell_13, e_X6_cell_14, e_X6_cell_15, e_X6_cell_40, e_X6_cell_41, e_X6_cell_44, e_X6_cell_47, e_X6_cell_48, e_X6_cell_49, e_X6_cell_50, e_X6_cell_51, e_X6_cell_54, e_X6_cell_57, e_X6_cell_58, e_X6_cell_59, e_X6_cell_60, e_X6_cell_63, e_X6_cell_64, e_X6_cell_67, e_X6_cell_70, e_X6_cell_71, e_X6_cell_74, e_X6_cell_75, e_X6_cell_78, e_X6_cell_79, e_X6_cell_81, k_X2_hasCell hI, c5, jm_bd_v, if_neg hb, not_true_eq_false, if_false, if_true]
    · show jm_R 12 md_X7_cell 0 [.ref 217, .int b, .int w] [] _ = _
      simp only [e_X7_cell_0, e_X7_cell_1, e_X7_cell_2, e_X7_cell_5, e_X7_cell_8, e_X7_cell_10, e_X7_cell_13, e_X7_cell_14, e_X7_cell_17, e_X7_cell_18, e_X7_cell_21, e_X7_cell_23, e_X7_cell_24, e_X7_cell_25, e_X7_cell_26, e_X7_cell_29, e_X7_cell_30, e_X7_cell_31, e_X7_cell_34, e_X7_cell_35, e_X7_cell_36, e_X7_cell_39, e_X7_cell_40, e_X7_cell_41, e_X7_cell_44, e_X7_cell_45, e_X7_cell_46, e_X7_cell_47, e_X7_cell_48, e_X7_cell_51, e_X7_cell_53, k_X7_isCell m3 hC6, jm_bd_v, if_neg hb, not_true_eq_false, if_false, if_true]
