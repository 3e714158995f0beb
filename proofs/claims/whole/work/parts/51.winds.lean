/-! winds -/
def wvM (y : Nat → Int32) (w n : Nat) : Int32 := ohN (upd y 2 (nI w)) n 7
theorem GN.wv {C N w : Nat} {x : Nat → Nat → Int32} {y y' : Nat → Int32} (g : GN C N x y) (g' : GN C N x y') (hw : w ≤ 3) (n : Nat) : wvM y w n = wvM y' w n := (g.wnd hw).own2 (g'.wnd hw) n
def wiF (y : Nat → Int32) (j n w : Nat) : Int32 := if wvM y w n = nI j then nI 1 <<< (nI w &&& 31) else nI 0
theorem lp_X4_winds {d C N n j : Nat} {m : Nat → Nat → Int32} {y : Nat → Int32} (hn : n < 1000) (g : GN C N (vwI m 200) y) : ∀ (k c : Nat) (s : Int32) (x : Nat → Nat → Int32), c + k = 4 → ∃ x', jm_R (d + 4) md_X4_windsFor 5 [.ref 207, .int (nI j), .int (nI n), .int s, .int (nI c)] [] (jm_mk (wrI m 208 x)) = some (some (.int (orL (wiF y j n) k c s)), jm_mk (wrI m 208 x')) := by
  have ha : jm_ia 208 = true := by decide
  intro k
  induction k with
  | zero =>
    intro c s x h
    have h1 : nI 3 < nI c := nI_lt (by omega) (by omega)
    refine ⟨x, ?_⟩
    rw [e_X4_windsFor_5]
    simp only [e_X4_windsFor_0, e_X4_windsFor_1, e_X4_windsFor_2, e_X4_windsFor_3, e_X4_windsFor_7, e_X4_windsFor_8, e_X4_windsFor_11, e_X4_windsFor_12, e_X4_windsFor_15, e_X4_windsFor_16, e_X4_windsFor_19, e_X4_windsFor_22, e_X4_windsFor_23, e_X4_windsFor_26, e_X4_windsFor_28, e_X4_windsFor_31, e_X4_windsFor_32, e_X4_windsFor_35, e_X4_windsFor_36, e_X4_windsFor_39, e_X4_windsFor_40, e_X4_windsFor_43, e_X4_windsFor_46, e_X4_windsFor_47, e_X4_windsFor_50, e_X4_windsFor_51, e_X4_windsFor_52, e_X4_windsFor_54, e_X4_windsFor_55, e_X4_windsFor_56, e_X4_windsFor_57, e_X4_windsFor_60, e_X4_windsFor_63, e_X4_windsFor_64, h1, if_true]
    rfl
  | succ k ih =>
    intro c s x h
    have h1 : ¬ nI 3 < nI c := nI_nlt (by omega) (by omega)
    have g1 := (g.bec (w := x)).wnd (w := c) (by omega)
    have h2 := k_X2_passAll (d := d) (m := m) (n := n) ha hn g1.gx
    have h3 : pasN (jm_up (becI x (vwI m 200)) 0 2 (nI c)) n 0 4 = wvM y c n := g1.own n
    obtain ⟨x', e⟩ := ih (c + 1) (s ||| wiF y j n c) (pasN (jm_up (becI x (vwI m 200)) 0 2 (nI c)) n) (by omega)
    refine ⟨x', ?_⟩
    rw [e_X4_windsFor_5]
    show _ = some (some (Value.int (orL (wiF y j n) k (c + 1) (s ||| wiF y j n c))), _)
    rw [← e]
    unfold wiF
    by_cases q : wvM y c n = nI j
    · simp only [e_X4_windsFor_0, e_X4_windsFor_1, e_X4_windsFor_2, e_X4_windsFor_3, e_X4_windsFor_7, e_X4_windsFor_8, e_X4_windsFor_11, e_X4_windsFor_12, e_X4_windsFor_15, e_X4_windsFor_16, e_X4_windsFor_19, e_X4_windsFor_22, e_X4_windsFor_23, e_X4_windsFor_26, e_X4_windsFor_28, e_X4_windsFor_31, e_X4_windsFor_32, e_X4_windsFor_35, e_X4_windsFor_36, e_X4_windsFor_39, e_X4_windsFor_40, e_X4_windsFor_43, e_X4_windsFor_46, e_X4_windsFor_47, e_X4_windsFor_50, e_X4_windsFor_51, e_X4_windsFor_52, e_X4_windsFor_54, e_X4_windsFor_55, e_X4_windsFor_56, e_X4_windsFor_57, e_X4_windsFor_60, e_X4_windsFor_63, e_X4_windsFor_64, h1, if_false, k_bec, jm_bd_0, ha, wrI_u0, h2, wrI_0, h3, q, not_true_eq_false, if_true, nI_add]
    · simp only [e_X4_windsFor_0, e_X4_windsFor_1, e_X4_windsFor_2, e_X4_windsFor_3, e_X4_windsFor_7, e_X4_windsFor_8, e_X4_windsFor_11, e_X4_windsFor_12, e_X4_windsFor_15, e_X4_windsFor_16, e_X4_windsFor_19, e_X4_windsFor_22, e_X4_windsFor_23, e_X4_windsFor_26, e_X4_windsFor_28, e_X4_windsFor_31, e_X4_windsFor_32, e_X4_windsFor_35, e_X4_windsFor_36, e_X4_windsFor_39, e_X4_windsFor_40, e_X4_windsFor_43, e_X4_windsFor_46, e_X4_windsFor_47, e_X4_windsFor_50, e_X4_windsFor_51, e_X4_windsFor_52, e_X4_windsFor_54, e_X4_windsFor_55, e_X4_windsFor_56, e_X4_windsFor_57, e_X4_windsFor_60, e_X4_windsFor_63, e_X4_windsFor_64, h1, if_false, k_bec, jm_bd_0, ha, wrI_u0, h2, wrI_0, h3, q, not_false_eq_true, if_true, nI_add, or0]
theorem lp_X7_winds {C N n j : Nat} {m x : Nat → Nat → Int32} {z : Nat → Int32} (hn : n < 1000) (g : GN C N x z) : ∀ (k c : Nat) (s : Int32) (y : Nat → Int32), (∀ i, i < 44 → y i = z i) → c + k = 4 → ∃ y', jm_R 12 md_X7_winds 32 [.ref 217, .int (nI j), .int (nI n), .int s, .int (nI c)] [] (jm_mk (wrA (wrA m 226 z) 221 y)) = some (some (.int (orL (wiF z j n) k c s)), jm_mk (wrA (wrA m 226 z) 221 y')) ∧ ∀ i, i < 44 → y' i = z i := by
  intro k
  induction k with
  | zero =>
    intro c s y hy h
    have h1 : nI 4 ≤ nI c := nI_le (by omega) (by omega)
    refine ⟨y, ?_, hy⟩
    rw [e_X7_winds_32]
    simp only [e_X7_winds_0, e_X7_winds_1, e_X7_winds_2, e_X7_winds_5, e_X7_winds_8, e_X7_winds_9, e_X7_winds_10, e_X7_winds_11, e_X7_winds_14, e_X7_winds_17, e_X7_winds_20, e_X7_winds_22, e_X7_winds_23, e_X7_winds_24, e_X7_winds_27, e_X7_winds_28, e_X7_winds_29, e_X7_winds_30, e_X7_winds_34, e_X7_winds_35, e_X7_winds_38, e_X7_winds_39, e_X7_winds_42, e_X7_winds_43, e_X7_winds_45, e_X7_winds_46, e_X7_winds_47, e_X7_winds_48, e_X7_winds_49, e_X7_winds_52, e_X7_winds_53, e_X7_winds_56, e_X7_winds_57, e_X7_winds_59, e_X7_winds_60, e_X7_winds_63, e_X7_winds_64, e_X7_winds_65, e_X7_winds_66, e_X7_winds_69, e_X7_winds_72, e_X7_winds_73, h1, if_true]
    rfl
  | succ k ih =>
    intro c s y hy h
    have h1 : ¬ nI 4 ≤ nI c := nI_ge (by omega) (by omega)
    have gy := g.congr hy
    have h2 := k_X7_ownerBy (d := 6) (m := m) (z := z) (y := upd y 2 (nI c)) (n := n) hn (gy.wnd (w := c) (by omega)).gx.y
    have h3 : ohN (upd y 2 (nI c)) n 7 = wvM z c n := gy.wv g (by omega) n
    rw [h3] at h2
    obtain ⟨y', e, e'⟩ := ih (c + 1) (s ||| wiF z j n c) (cp44 z (ohN (upd y 2 (nI c)) n)) (fun i hi => cp44_lt hi) (by omega)
    refine ⟨y', ?_, e'⟩
    rw [e_X7_winds_32]
    show _ = some (some (Value.int (orL (wiF z j n) k (c + 1) (s ||| wiF z j n c))), _)
    rw [← e]
    unfold wiF
    by_cases q : wvM z c n = nI j
    · simp only [e_X7_winds_0, e_X7_winds_1, e_X7_winds_2, e_X7_winds_5, e_X7_winds_8, e_X7_winds_9, e_X7_winds_10, e_X7_winds_11, e_X7_winds_14, e_X7_winds_17, e_X7_winds_20, e_X7_winds_22, e_X7_winds_23, e_X7_winds_24, e_X7_winds_27, e_X7_winds_28, e_X7_winds_29, e_X7_winds_30, e_X7_winds_34, e_X7_winds_35, e_X7_winds_38, e_X7_winds_39, e_X7_winds_42, e_X7_winds_43, e_X7_winds_45, e_X7_winds_46, e_X7_winds_47, e_X7_winds_48, e_X7_winds_49, e_X7_winds_52, e_X7_winds_53, e_X7_winds_56, e_X7_winds_57, e_X7_winds_59, e_X7_winds_60, e_X7_winds_63, e_X7_winds_64, e_X7_winds_65, e_X7_winds_66, e_X7_winds_69, e_X7_winds_72, e_X7_winds_73, h1, if_false, show (2 : Nat) < 44 by decide, wrA_up, h2, jm_bd_v, q, not_true_eq_false, if_true, nI_add]
    · simp only [e_X7_winds_0, e_X7_winds_1, e_X7_winds_2, e_X7_winds_5, e_X7_winds_8, e_X7_winds_9, e_X7_winds_10, e_X7_winds_11, e_X7_winds_14, e_X7_winds_17, e_X7_winds_20, e_X7_winds_22, e_X7_winds_23, e_X7_winds_24, e_X7_winds_27, e_X7_winds_28, e_X7_winds_29, e_X7_winds_30, e_X7_winds_34, e_X7_winds_35, e_X7_winds_38, e_X7_winds_39, e_X7_winds_42, e_X7_winds_43, e_X7_winds_45, e_X7_winds_46, e_X7_winds_47, e_X7_winds_48, e_X7_winds_49, e_X7_winds_52, e_X7_winds_53, e_X7_winds_56, e_X7_winds_57, e_X7_winds_59, e_X7_winds_60, e_X7_winds_63, e_X7_winds_64, e_X7_winds_65, e_X7_winds_66, e_X7_winds_69, e_X7_winds_72, e_X7_winds_73, h1, if_false, show (2 : Nat) < 44 by decide, wrA_up, h2, jm_bd_v, q, not_false_eq_true, if_true, nI_add]
theorem orL_congr {f g : Nat → Int32} : ∀ {k c : Nat} {s : Int32}, (∀ j, c ≤ j → j < c + k → f j = g j) → orL f k c s = orL g k c s
  | 0, c, s, _ => rfl
  | k + 1, c, s, e => by
    show orL f k (c + 1) (s ||| f c) = orL g k (c + 1) (s ||| g c)
    rw [e c (Nat.le_refl _) (by omega)]
    exact orL_congr (fun j h1 h2 => e j (by omega) (by omega))
theorem api_winds (b n : Int32) : Api md_X6_winds md_X7_winds [.int b, .int n] := by
  refine Api.try (fun m hR => ?_)
  obtain ⟨C, N, hC6, hN6, c6, m4, c5, m3, hcase⟩ := hR.isle
  have hI : jm_ia 200 = true := by decide
  by_cases hb : ¬ b < nI 0 ∧ ¬ nI N ≤ b
  · by_cases hn : ¬ n < nI 1 ∧ ¬ nI 60 < n
    · obtain ⟨j, hj, rfl⟩ := ix_of hb (by omega)
      obtain ⟨k, hk1, hk, rfl⟩ := rg_of hn (by omega) (by omega)
      rcases hcase with ⟨q, -⟩ | ⟨-, q2, g⟩
      · omega
      obtain ⟨x1, e1⟩ := lp_X4_winds (d := 7) (m := m) (n := k) (j := j) (by omega) g 4 0 (nI 0) (vwI m 208) rfl
      rw [wrI_self] at e1
      have hc : jm_K 11 md_X4_windsFor [.ref 207, .int (nI j), .int (nI k)] (jm_mk m) = some (some (.int (orL (wiF (m 221) j k) 4 0 (nI 0))), jm_mk (wrI m 208 x1)) := by
        show jm_R 11 md_X4_windsFor 0 [.ref 207, .int (nI j), .int (nI k), .null, .null] [] _ = _
        simp only [e_X4_windsFor_0, e_X4_windsFor_1, e_X4_windsFor_2, e_X4_windsFor_3, e_X4_windsFor_7, e_X4_windsFor_8, e_X4_windsFor_11, e_X4_windsFor_12, e_X4_windsFor_15, e_X4_windsFor_16, e_X4_windsFor_19, e_X4_windsFor_22, e_X4_windsFor_23, e_X4_windsFor_26, e_X4_windsFor_28, e_X4_windsFor_31, e_X4_windsFor_32, e_X4_windsFor_35, e_X4_windsFor_36, e_X4_windsFor_39, e_X4_windsFor_40, e_X4_windsFor_43, e_X4_windsFor_46, e_X4_windsFor_47, e_X4_windsFor_50, e_X4_windsFor_51, e_X4_windsFor_52, e_X4_windsFor_54, e_X4_windsFor_55, e_X4_windsFor_56, e_X4_windsFor_57, e_X4_windsFor_60, e_X4_windsFor_63, e_X4_windsFor_64]
        exact e1
      have gz : GN C N (vwI m 200) (cp44 (m 221) (m 226)) := g.congr (fun i hi => cp44_lt hi)
      refine ⟨.int (orL (wiF (m 221) j k) 4 0 (nI 0)), x1, ?_, fun m1 hm => ?_⟩
      · show jm_R 12 md_X6_winds 0 [.ref 0, .int (nI j), .int (nI k)] [] _ = _
        simp only [e_X6_winds_0, e_X6_winds_1, e_X6_winds_4, e_X6_winds_5, e_X6_winds_8, e_X6_winds_11, e_X6_winds_12, e_X6_winds_13, e_X6_winds_15, e_X6_winds_18, e_X6_winds_21, e_X6_winds_23, e_X6_winds_24, e_X6_winds_25, e_X6_winds_28, e_X6_winds_29, e_X6_winds_30, e_X6_winds_33, k_X2_hasBoat hI, k_X2_stands hI, k_X2_hasCell hI, c6, c5, k_X6_within, jm_bd_v, jm_bd_0, bv1, if_false, if_true, not_false_eq_true, not_true_eq_false, if_pos hb, if_pos hn, hc]
      · obtain ⟨y2, e2, e3⟩ := lp_X7_winds (m := m1) (n := k) (j := j) (by omega) gz 4 0 (nI 0) (m 221) (fun i hi => (cp44_lt hi).symm) rfl
        refine ⟨cp44 (m 221) (m 226), y2, ?_, fun i hi => by rw [e3 i hi, cp44_lt hi]⟩
        have e5 := k_X7_isBoat (d := 10) (m := wrA (wrA m1 226 (m 226)) 221 (m 221)) (b := nI j) (by rw [wrA_at]; exact m4) hN6
        have e6 : orL (wiF (cp44 (m 221) (m 226)) j k) 4 0 (nI 0) = orL (wiF (m 221) j k) 4 0 (nI 0) := orL_congr (fun w h1 h2 => by unfold wiF; rw [gz.wv g (by omega) k])
        rw [e6] at e2
        show jm_R 12 md_X7_winds 0 [.ref 217, .int (nI j), .int (nI k), .null, .null] [] _ = _
        simp only [e_X7_winds_0, e_X7_winds_1, e_X7_winds_2, e_X7_winds_5, e_X7_winds_8, e_X7_winds_9, e_X7_winds_10, e_X7_winds_11, e_X7_winds_14, e_X7_winds_17, e_X7_winds_20, e_X7_winds_22, e_X7_winds_23, e_X7_winds_24, e_X7_winds_27, e_X7_winds_28, e_X7_winds_29, e_X7_winds_30, e_X7_winds_34, e_X7_winds_35, e_X7_winds_38, e_X7_winds_39, e_X7_winds_42, e_X7_winds_43, e_X7_winds_45, e_X7_winds_46, e_X7_winds_47, e_X7_winds_48, e_X7_winds_49, e_X7_winds_52, e_X7_winds_53, e_X7_winds_56, e_X7_winds_57, e_X7_winds_59, e_X7_winds_60, e_X7_winds_63, e_X7_winds_64, e_X7_winds_65, e_X7_winds_66, e_X7_winds_69, e_X7_winds_72, e_X7_winds_73, e5, in_1_60, jm_bd_v, jm_bd_0, bv1, if_false, if_true, not_false_eq_true, not_true_eq_false, if_pos hb, if_pos hn, k_X7_putAside]
        exact e2
    · refine Api.no (r := .int (-1000001)) ?_ (fun m' h7 h1 => ?_)
      · show jm_R 12 md_X6_winds 0 [.ref 0, .int b, .int n] [] _ = _
        simp only [e_X6_winds_0, e_X6_winds_1, e_X6_winds_4, e_X6_winds_5, e_X6_winds_8, e_X6_winds_11, e_X6_winds_12, e_X6_winds_13, e_X6_winds_15, e_X6_winds_18, e_X6_winds_21, e_X6_winds_23, e_X6_winds_24, e_X6_winds_25, e_X6_winds_28, e_X6_winds_29, e_X6_winds_30, e_X6_winds_33, k_X2_hasBoat hI, k_X2_stands hI, k_X2_hasCell hI, c6, c5, k_X6_within, jm_bd_v, jm_bd_0, bv1, if_false, if_true, not_false_eq_true, not_true_eq_false, if_pos hb, if_neg hn]
      · show jm_R 12 md_X7_winds 0 [.ref 217, .int b, .int n, .null, .null] [] _ = _
        have m4' : m' 221 4 = nI N := by rw [h1]; exact m4
        simp only [e_X7_winds_0, e_X7_winds_1, e_X7_winds_2, e_X7_winds_5, e_X7_winds_8, e_X7_winds_9, e_X7_winds_10, e_X7_winds_11, e_X7_winds_14, e_X7_winds_17, e_X7_winds_20, e_X7_winds_22, e_X7_winds_23, e_X7_winds_24, e_X7_winds_27, e_X7_winds_28, e_X7_winds_29, e_X7_winds_30, e_X7_winds_34, e_X7_winds_35, e_X7_winds_38, e_X7_winds_39, e_X7_winds_42, e_X7_winds_43, e_X7_winds_45, e_X7_winds_46, e_X7_winds_47, e_X7_winds_48, e_X7_winds_49, e_X7_winds_52, e_X7_winds_53, e_X7_winds_56, e_X7_winds_57, e_X7_winds_59, e_X7_winds_60, e_X7_winds_63, e_X7_winds_64, e_X7_winds_65, e_X7_winds_66, e_X7_winds_69, e_X7_winds_72, e_X7_winds_73, k_X7_isBoat m4' hN6, in_1_60, jm_bd_v, jm_bd_0, bv1, if_false, if_true, not_false_eq_true, not_true_eq_false, if_pos hb, if_neg hn]
  · refine Api.no (r := .int (-1000001)) ?_ (fun m' h7 h1 => ?_)
    · show jm_R 12 md_X6_winds 0 [.ref 0, .int b, .int n] [] _ = _
      simp only [e_X6_winds_0, e_X6_winds_1, e_X6_winds_4, e_X6_winds_5, e_X6_winds_8, e_X6_winds_11, e_X6_winds_12, e_X6_winds_13, e_X6_winds_15, e_X6_winds_18, e_X6_winds_21, e_X6_winds_23, e_X6_winds_24, e_X6_winds_25, e_X6_winds_28, e_X6_winds_29, e_X6_winds_30, e_X6_winds_33, k_X2_hasBoat hI, k_X2_stands hI, k_X2_hasCell hI, c6, c5, k_X6_within, jm_bd_v, jm_bd_0, bv1, if_false, if_true, not_false_eq_true, not_true_eq_false, if_neg hb]
    · show jm_R 12 md_X7_winds 0 [.ref 217, .int b, .int n, .null, .null] [] _ = _
      have m4' : m' 221 4 = nI N := by rw [h1]; exact m4
      simp only [e_X7_winds_0, e_X7_winds_1, e_X7_winds_2, e_X7_winds_5, e_X7_winds_8, e_X7_winds_9, e_X7_winds_10, e_X7_winds_11, e_X7_winds_14, e_X7_winds_17, e_X7_winds_20, e_X7_winds_22, e_X7_winds_23, e_X7_winds_24, e_X7_winds_27, e_X7_winds_28, e_X7_winds_29, e_X7_winds_30, e_X7_winds_34, e_X7_winds_35, e_X7_winds_38, e_X7_winds_39, e_X7_winds_42, e_X7_winds_43, e_X7_winds_45, e_X7_winds_46, e_X7_winds_47, e_X7_winds_48, e_X7_winds_49, e_X7_winds_52, e_X7_winds_53, e_X7_winds_56, e_X7_winds_57, e_X7_winds_59, e_X7_winds_60, e_X7_winds_63, e_X7_winds_64, e_X7_winds_65, e_X7_winds_66, e_X7_winds_69, e_X7_winds_72, e_X7_winds_73, k_X7_isBoat m4' hN6, jm_bd_v, jm_bd_0, bv1, if_false, if_true, not_false_eq_true, not_true_eq_false, if_neg hb]
/-! sets of boats -/
def pcN (t : Nat) : Nat := t % 2 + t / 2 % 2 + t / 4 % 2 + t / 8 % 2 + t / 16 % 2 + t / 32 % 2
set_option maxRecDepth 100000 in
theorem ones_fin : ∀ t, t < 64 → t = 0 ∨ (nI t &&& (nI t - nI 1) = nI (t &&& (t - 1)) ∧ t &&& (t - 1) < t ∧ pcN (t &&& (t - 1)) + 1 = pcN t) := by decide +kernel
theorem pcN_le {t : Nat} : pcN t ≤ 6 := by unfold pcN; omega
theorem lp_X7_ones {d : Nat} {l0 : Int32} {M : jm_M} : ∀ (f t c : Nat), t < f → t < 64 → jm_R d md_X7_ones 4 [.int l0, .int (nI c), .int (nI t)] [] M = some (some (.int (nI (c + pcN t))), M)
  | 0, t, c, h, _ => by omega
  | f + 1, t, c, h, h64 => by
    rw [e_X7_ones_4]
    rcases ones_fin t h64 with rfl | ⟨h1, h2, h3⟩
    · simp only [e_X7_ones_0, e_X7_ones_1, e_X7_ones_2, e_X7_ones_3, e_X7_ones_5, e_X7_ones_8, e_X7_ones_11, e_X7_ones_12, e_X7_ones_13, e_X7_ones_14, e_X7_ones_15, e_X7_ones_16, e_X7_ones_17, e_X7_ones_20, e_X7_ones_21, if_true]
      rfl
    · by_cases q : t = 0
      · subst q; exact absurd h2 (by decide)
      · have hq : ¬ nI t = nI 0 := fun e => q ((nI_eq (by omega) (by decide)).mp e)
        simp only [e_X7_ones_0, e_X7_ones_1, e_X7_ones_2, e_X7_ones_3, e_X7_ones_5, e_X7_ones_8, e_X7_ones_11, e_X7_ones_12, e_X7_ones_13, e_X7_ones_14, e_X7_ones_15, e_X7_ones_16, e_X7_ones_17, e_X7_ones_20, e_X7_ones_21, hq, if_false, nI_add, h1]
        rw [lp_X7_ones f (t &&& (t - 1)) (c + 1) (by omega) (by omega), show c + 1 + pcN (t &&& (t - 1)) = c + pcN t by omega]
theorem k_X7_ones {d t : Nat} {M : jm_M} (h : t < 64) : jm_K d md_X7_ones [.int (nI t)] M = some (some (.int (nI (pcN t))), M) := by
  show jm_R d md_X7_ones 0 [.int (nI t), .null, .null] [] _ = _
  simp only [e_X7_ones_0, e_X7_ones_1, e_X7_ones_2, e_X7_ones_3, e_X7_ones_5, e_X7_ones_8, e_X7_ones_11, e_X7_ones_12, e_X7_ones_13, e_X7_ones_14, e_X7_ones_15, e_X7_ones_16, e_X7_ones_17, e_X7_ones_20, e_X7_ones_21]
  rw [lp_X7_ones 64 t 0 h h, Nat.zero_add]
def bc1 (x : Int32) : Int32 := x - ((x.toUInt32 >>> ((nI 1).toUInt32 &&& Int32.toUInt32 31)).toInt32 &&& nI 1431655765)
def bc2 (x : Int32) : Int32 := (x &&& nI 858993459) + ((x.toUInt32 >>> ((nI 2).toUInt32 &&& Int32.toUInt32 31)).toInt32 &&& nI 858993459)
def bc3 (x : Int32) : Int32 := x + (x.toUInt32 >>> ((nI 4).toUInt32 &&& Int32.toUInt32 31)).toInt32 &&& nI 252645135
def bc4 (x : Int32) : Int32 := x + (x.toUInt32 >>> ((nI 8).toUInt32 &&& Int32.toUInt32 31)).toInt32
def bc5 (x : Int32) : Int32 := x + (x.toUInt32 >>> ((nI 16).toUInt32 &&& Int32.toUInt32 31)).toInt32
def bcF (x : Int32) : Int32 := bc5 (bc4 (bc3 (bc2 (bc1 x)))) &&& nI 63
set_option maxRecDepth 100000 in
theorem bc_fin : ∀ t, t < 64 → bcF (nI t) = nI (pcN t) := by decide +kernel
theorem k_bitCount {d t : Nat} {M : jm_M} (h : t < 64) : jm_K d md_J6_bitCount_0f7a4 [.int (nI t)] M = some (some (.int (nI (pcN t))), M) := by
  show jm_R d md_J6_bitCount_0f7a4 0 [.int (nI t)] [] _ = _
  simp only [e_J6_bitCount_0f7a4_0, e_J6_bitCount_0f7a4_1, e_J6_bitCount_0f7a4_2, e_J6_bitCount_0f7a4_3, e_J6_bitCount_0f7a4_4, e_J6_bitCount_0f7a4_7, e_J6_bitCount_0f7a4_8, e_J6_bitCount_0f7a4_9, e_J6_bitCount_0f7a4_10, e_J6_bitCount_0f7a4_11, e_J6_bitCount_0f7a4_14, e_J6_bitCount_0f7a4_15, e_J6_bitCount_0f7a4_16, e_J6_bitCount_0f7a4_17, e_J6_bitCount_0f7a4_18, e_J6_bitCount_0f7a4_21, e_J6_bitCount_0f7a4_22, e_J6_bitCount_0f7a4_23, e_J6_bitCount_0f7a4_24, e_J6_bitCount_0f7a4_25, e_J6_bitCount_0f7a4_26, e_J6_bitCount_0f7a4_27, e_J6_bitCount_0f7a4_28, e_J6_bitCount_0f7a4_29, e_J6_bitCount_0f7a4_32, e_J6_bitCount_0f7a4_33, e_J6_bitCount_0f7a4_34, e_J6_bitCount_0f7a4_35, e_J6_bitCount_0f7a4_36, e_J6_bitCount_0f7a4_38, e_J6_bitCount_0f7a4_39, e_J6_bitCount_0f7a4_40, e_J6_bitCount_0f7a4_41, e_J6_bitCount_0f7a4_42, e_J6_bitCount_0f7a4_43, e_J6_bitCount_0f7a4_45, e_J6_bitCount_0f7a4_46, e_J6_bitCount_0f7a4_47, e_J6_bitCount_0f7a4_48, e_J6_bitCount_0f7a4_49, e_J6_bitCount_0f7a4_51, e_J6_bitCount_0f7a4_52]
  show some (some (Value.int (bcF (nI t))), M) = _
  rw [bc_fin t h]
