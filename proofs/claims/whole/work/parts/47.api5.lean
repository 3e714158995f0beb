/-! what shows, what is dry, for how long -/
theorem in_0_60 {d : Nat} {v : Int32} {M : jm_M} : jm_K d md_X7_in [.long v.toInt64, .long (lN 0), .long (lN 60)] M = some (some (.int (if ¬ v < nI 0 ∧ ¬ nI 60 < v then nI 1 else nI 0)), M) := k_X7_inN (by decide) (by decide)
theorem in_1_60 {d : Nat} {v : Int32} {M : jm_M} : jm_K d md_X7_in [.long v.toInt64, .long (lN 1), .long (lN 60)] M = some (some (.int (if ¬ v < nI 1 ∧ ¬ nI 60 < v then nI 1 else nI 0)), M) := k_X7_inN (by decide) (by decide)
theorem in_1_40 {d : Nat} {v : Int32} {M : jm_M} : jm_K d md_X7_in [.long v.toInt64, .long (lN 1), .long (lN 40)] M = some (some (.int (if ¬ v < nI 1 ∧ ¬ nI 40 < v then nI 1 else nI 0)), M) := k_X7_inN (by decide) (by decide)
theorem in_0_1 {d : Nat} {v : Int32} {M : jm_M} : jm_K d md_X7_in [.long v.toInt64, .long (lN 0), .long (lN 1)] M = some (some (.int (if ¬ v < nI 0 ∧ ¬ nI 1 < v then nI 1 else nI 0)), M) := k_X7_inN (by decide) (by decide)
theorem in_1_24 {d : Nat} {v : Int32} {M : jm_M} : jm_K d md_X7_in [.long v.toInt64, .long (lN 1), .long (lN 24)] M = some (some (.int (if ¬ v < nI 1 ∧ ¬ nI 24 < v then nI 1 else nI 0)), M) := k_X7_inN (by decide) (by decide)
theorem in_0_3 {d : Nat} {v : Int32} {M : jm_M} : jm_K d md_X7_in [.long v.toInt64, .long (lN 0), .long (lN 3)] M = some (some (.int (if ¬ v < nI 0 ∧ ¬ nI 3 < v then nI 1 else nI 0)), M) := k_X7_inN (by decide) (by decide)
theorem in_1_9 {d : Nat} {v : Int32} {M : jm_M} : jm_K d md_X7_in [.long v.toInt64, .long (lN 1), .long (lN 9)] M = some (some (.int (if ¬ v < nI 1 ∧ ¬ nI 9 < v then nI 1 else nI 0)), M) := k_X7_inN (by decide) (by decide)
theorem in_0_2 {d : Nat} {v : Int32} {M : jm_M} : jm_K d md_X7_in [.long v.toInt64, .long (lN 0), .long (lN 2)] M = some (some (.int (if ¬ v < nI 0 ∧ ¬ nI 2 < v then nI 1 else nI 0)), M) := k_X7_inN (by decide) (by decide)
theorem in_1_12 {d : Nat} {v : Int32} {M : jm_M} : jm_K d md_X7_in [.long v.toInt64, .long (lN 1), .long (lN 12)] M = some (some (.int (if ¬ v < nI 1 ∧ ¬ nI 12 < v then nI 1 else nI 0)), M) := k_X7_inN (by decide) (by decide)
theorem in_0_10 {d : Nat} {v : Int32} {M : jm_M} : jm_K d md_X7_in [.long v.toInt64, .long (lN 0), .long (lN 10)] M = some (some (.int (if ¬ v < nI 0 ∧ ¬ nI 10 < v then nI 1 else nI 0)), M) := k_X7_inN (by decide) (by decide)
theorem in_1_999999 {d : Nat} {v : Int32} {M : jm_M} : jm_K d md_X7_in [.long v.toInt64, .long (lN 1), .long (lN 999999)] M = some (some (.int (if ¬ v < nI 1 ∧ ¬ nI 999999 < v then nI 1 else nI 0)), M) := k_X7_inN (by decide) (by decide)
theorem in_0_5 {d : Nat} {v : Int32} {M : jm_M} : jm_K d md_X7_in [.long v.toInt64, .long (lN 0), .long (lN 5)] M = some (some (.int (if ¬ v < nI 0 ∧ ¬ nI 5 < v then nI 1 else nI 0)), M) := k_X7_inN (by decide) (by decide)
theorem in_0_255 {d : Nat} {v : Int32} {M : jm_M} : jm_K d md_X7_in [.long v.toInt64, .long (lN 0), .long (lN 255)] M = some (some (.int (if ¬ v < nI 0 ∧ ¬ nI 255 < v then nI 1 else nI 0)), M) := k_X7_inN (by decide) (by decide)
theorem k_X7_isWhat {d : Nat} {v : Int32} {m : Nat → Nat → Int32} : jm_K (d + 1) md_X7_isWhat [.int v] (jm_mk m) = some (some (.int (if ¬ v < nI 0 ∧ ¬ nI 1 < v then nI 1 else nI 0)), jm_mk m) := by
  show jm_R (d + 1) md_X7_isWhat 0 [.int v] [] _ = _
  simp only [e_X7_isWhat_0, e_X7_isWhat_1, e_X7_isWhat_2, e_X7_isWhat_3, e_X7_isWhat_4, e_X7_isWhat_7, in_0_1, jm_bd_v, b01]
def fsL (p : Nat → Bool) : Nat → Nat → Int32
  | 0, _ => -1000000
  | k + 1, c => if p c = true then nI c else fsL p k (c + 1)
theorem fsL_s {p : Nat → Bool} {k c : Nat} : fsL p (k + 1) c = if p c = true then nI c else fsL p k (c + 1) := rfl
def shB (x : Nat → Nat → Int32) (C : Nat) (c : Nat) : Bool := shwL (x 1) (watI x (nI c)) C 0
theorem sh_dr {x : Nat → Nat → Int32} {y : Nat → Int32} {C N c : Nat} (g : GN C N x y) : (dryMs y (watM y (y 5 + nI c)) C 0 (nI 0) = nI 0) = (shB x C c = false) := by
  obtain ⟨o, hv, hr⟩ := g
  exact propext (lock_sh (k := nI c) hr hv.1.2.2)
theorem lp_X6_shows {C N : Nat} {m : Nat → Nat → Int32} (g : GN C N (vwI m 200) (m 221)) : ∀ (k c : Nat), c + k = 61 → jm_R 12 md_X6_shows 15 [.ref 0, .int (nI c)] [] (jm_mk m) = some (some (.int (fsL (shB (vwI m 200) C) k c)), jm_mk m) := by
  intro k
  induction k with
  | zero =>
    intro c h
    have h1 : nI 60 < nI c := nI_lt (by omega) (by omega)
    rw [e_X6_shows_15]
    simp only [e_X6_shows_0, e_X6_shows_1, e_X6_shows_4, e_X6_shows_7, e_X6_shows_10, e_X6_shows_12, e_X6_shows_13, e_X6_shows_14, e_X6_shows_16, e_X6_shows_18, e_X6_shows_21, e_X6_shows_22, e_X6_shows_25, e_X6_shows_26, e_X6_shows_29, e_X6_shows_32, e_X6_shows_33, e_X6_shows_34, e_X6_shows_37, e_X6_shows_40, e_X6_shows_42, h1, if_true]
    rfl
  | succ k ih =>
    intro c h
    have h1 : ¬ nI 60 < nI c := nI_nlt (by omega) (by omega)
    rw [e_X6_shows_15]
    simp only [e_X6_shows_0, e_X6_shows_1, e_X6_shows_4, e_X6_shows_7, e_X6_shows_10, e_X6_shows_12, e_X6_shows_13, e_X6_shows_14, e_X6_shows_16, e_X6_shows_18, e_X6_shows_21, e_X6_shows_22, e_X6_shows_25, e_X6_shows_26, e_X6_shows_29, e_X6_shows_32, e_X6_shows_33, e_X6_shows_34, e_X6_shows_37, e_X6_shows_40, e_X6_shows_42, h1, if_false, q_shows (show jm_ia 200 = true by decide) g, jm_bd_v, nI_add, ih _ (show c + 1 + k = 61 by omega)]
    rw [fsL_s]
    unfold shB
    by_cases q : shwL (vwI m 200 1) (watI (vwI m 200) (nI c)) C 0 = true
    · simp only [if_pos q, bv1, if_false]
    · simp only [if_neg q, if_true]
theorem lp_X7_shows {C N : Nat} {x m : Nat → Nat → Int32} (g : GN C N x (m 221)) : ∀ (k c : Nat), c + k = 61 → jm_R 12 md_X7_shows 12 [.ref 217, .int (nI c)] [] (jm_mk m) = some (some (.int (fsL (shB x C) k c)), jm_mk m) := by
  intro k
  induction k with
  | zero =>
    intro c h
    have h1 : nI 60 < nI c := nI_lt (by omega) (by omega)
    rw [e_X7_shows_12]
    simp only [e_X7_shows_0, e_X7_shows_1, e_X7_shows_4, e_X7_shows_7, e_X7_shows_9, e_X7_shows_10, e_X7_shows_11, e_X7_shows_13, e_X7_shows_15, e_X7_shows_18, e_X7_shows_19, e_X7_shows_20, e_X7_shows_23, e_X7_shows_24, e_X7_shows_25, e_X7_shows_26, e_X7_shows_27, e_X7_shows_30, e_X7_shows_33, e_X7_shows_34, e_X7_shows_35, e_X7_shows_38, e_X7_shows_41, e_X7_shows_43, h1, if_true]
    rfl
  | succ k ih =>
    intro c h
    have h1 : ¬ nI 60 < nI c := nI_nlt (by omega) (by omega)
    rw [e_X7_shows_12]
    simp only [e_X7_shows_0, e_X7_shows_1, e_X7_shows_4, e_X7_shows_7, e_X7_shows_9, e_X7_shows_10, e_X7_shows_11, e_X7_shows_13, e_X7_shows_15, e_X7_shows_18, e_X7_shows_19, e_X7_shows_20, e_X7_shows_23, e_X7_shows_24, e_X7_shows_25, e_X7_shows_26, e_X7_shows_27, e_X7_shows_30, e_X7_shows_33, e_X7_shows_34, e_X7_shows_35, e_X7_shows_38, e_X7_shows_41, e_X7_shows_43, h1, if_false, show (5 : Nat) < 44 by decide, q_mdry g, jm_bd_v, nI_add, ih _ (show c + 1 + k = 61 by omega), sh_dr g]
    rw [fsL_s]
    cases q : shB x C c with
    | true => simp only [if_true, Bool.true_eq_false, if_false]
    | false => simp only [if_true, Bool.false_eq_true, if_false]
theorem api_shows : Api md_X6_shows md_X7_shows [] := by
  refine Api.ask (fun m hR => ?_)
  obtain ⟨C, N, hC6, hN6, c6, m4, c5, m3, hcase⟩ := hR.isle
  have hI : jm_ia 200 = true := by decide
  rcases hcase with ⟨q0, q1, q2⟩ | ⟨q0, q2, g⟩
  · subst q0
    refine ⟨.int (-1000002), m, m, ?_, ?_, AG.refl⟩
    · show jm_R 12 md_X6_shows 0 [.ref 0, .null] [] _ = _
      simp only [e_X6_shows_0, e_X6_shows_1, e_X6_shows_4, e_X6_shows_7, e_X6_shows_10, e_X6_shows_12, e_X6_shows_13, e_X6_shows_14, e_X6_shows_16, e_X6_shows_18, e_X6_shows_21, e_X6_shows_22, e_X6_shows_25, e_X6_shows_26, e_X6_shows_29, e_X6_shows_32, e_X6_shows_33, e_X6_shows_34, e_X6_shows_37, e_X6_shows_40, e_X6_shows_42, k_X2_hasBoat hI, k_X2_stands hI, k_X2_hasCell hI, c6, c5, k_X6_within, jm_bd_v, jm_bd_0, bv1, if_false, if_true, not_false_eq_true, not_true_eq_false, nI_le (Nat.le_refl 0) (show 0 < 2 ^ 31 by decide)]
    · show jm_R 12 md_X7_shows 0 [.ref 217, .null] [] _ = _
      simp only [e_X7_shows_0, e_X7_shows_1, e_X7_shows_4, e_X7_shows_7, e_X7_shows_9, e_X7_shows_10, e_X7_shows_11, e_X7_shows_13, e_X7_shows_15, e_X7_shows_18, e_X7_shows_19, e_X7_shows_20, e_X7_shows_23, e_X7_shows_24, e_X7_shows_25, e_X7_shows_26, e_X7_shows_27, e_X7_shows_30, e_X7_shows_33, e_X7_shows_34, e_X7_shows_35, e_X7_shows_38, e_X7_shows_41, e_X7_shows_43, q2, k_X7_isBoat m4 hN6, k_X7_isCell m3 hC6, in_0_60, in_1_60, in_1_40, in_0_1, in_1_24, in_0_3, in_1_9, in_0_2, in_1_12, in_0_10, in_1_999999, in_0_5, in_0_255, k_X7_isRow, k_X7_isWhat, jm_bd_v, jm_bd_0, bv1, if_false, if_true, not_false_eq_true, not_true_eq_false]
  · have hst := stN q0 hN6
    have hth := thereOf q2
    refine ⟨.int (fsL (shB (vwI m 200) C) 61 0), m, m, ?_, ?_, AG.refl⟩
    · show jm_R 12 md_X6_shows 0 [.ref 0, .null] [] _ = _
      simp only [e_X6_shows_0, e_X6_shows_1, e_X6_shows_4, e_X6_shows_7, e_X6_shows_10, e_X6_shows_12, e_X6_shows_13, e_X6_shows_14, e_X6_shows_16, e_X6_shows_18, e_X6_shows_21, e_X6_shows_22, e_X6_shows_25, e_X6_shows_26, e_X6_shows_29, e_X6_shows_32, e_X6_shows_33, e_X6_shows_34, e_X6_shows_37, e_X6_shows_40, e_X6_shows_42, k_X2_hasBoat hI, k_X2_stands hI, k_X2_hasCell hI, c6, c5, k_X6_within, jm_bd_v, jm_bd_0, bv1, if_false, if_true, not_false_eq_true, not_true_eq_false, hst]
      exact lp_X6_shows g 61 0 rfl
    · show jm_R 12 md_X7_shows 0 [.ref 217, .null] [] _ = _
      simp only [e_X7_shows_0, e_X7_shows_1, e_X7_shows_4, e_X7_shows_7, e_X7_shows_9, e_X7_shows_10, e_X7_shows_11, e_X7_shows_13, e_X7_shows_15, e_X7_shows_18, e_X7_shows_19, e_X7_shows_20, e_X7_shows_23, e_X7_shows_24, e_X7_shows_25, e_X7_shows_26, e_X7_shows_27, e_X7_shows_30, e_X7_shows_33, e_X7_shows_34, e_X7_shows_35, e_X7_shows_38, e_X7_shows_41, e_X7_shows_43, k_X7_isBoat m4 hN6, k_X7_isCell m3 hC6, in_0_60, in_1_60, in_1_40, in_0_1, in_1_24, in_0_3, in_1_9, in_0_2, in_1_12, in_0_10, in_1_999999, in_0_5, in_0_255, k_X7_isRow, k_X7_isWhat, jm_bd_v, jm_bd_0, bv1, if_false, if_true, not_false_eq_true, not_true_eq_false, hth]
      exact lp_X7_shows g 61 0 rfl
def orL (f : Nat → Int32) : Nat → Nat → Int32 → Int32
  | 0, _, s => s
  | k + 1, c, s => orL f k (c + 1) (s ||| f c)
def drB (x : Nat → Nat → Int32) (C : Nat) (c : Nat) : Int32 := dryL (x 1) (watI x (nI c)) C 0 (nI 0)
theorem dr_dr {x : Nat → Nat → Int32} {y : Nat → Int32} {C N c : Nat} (g : GN C N x y) : dryMs y (watM y (y 5 + nI c)) C 0 (nI 0) = drB x C c := by
  obtain ⟨o, hv, hr⟩ := g
  exact (lock_dry (k := nI c) hr hv.1.2.2).symm
theorem lp_X6_dry {C N n : Nat} {m : Nat → Nat → Int32} (hn : n ≤ 60) (g : GN C N (vwI m 200) (m 221)) : ∀ (k c : Nat) (s : Int32), c + k = n → jm_R 12 md_X6_dry 30 [.ref 0, .int (nI n), .int s, .int (nI c)] [] (jm_mk m) = some (some (.int (orL (drB (vwI m 200) C) k c s)), jm_mk m) := by
  intro k
  induction k with
  | zero =>
    intro c s h
    have h1 : nI n ≤ nI c := nI_le (by omega) (by omega)
    rw [e_X6_dry_30]
    simp only [e_X6_dry_0, e_X6_dry_1, e_X6_dry_4, e_X6_dry_7, e_X6_dry_10, e_X6_dry_12, e_X6_dry_13, e_X6_dry_14, e_X6_dry_15, e_X6_dry_17, e_X6_dry_20, e_X6_dry_23, e_X6_dry_25, e_X6_dry_26, e_X6_dry_27, e_X6_dry_28, e_X6_dry_29, e_X6_dry_31, e_X6_dry_32, e_X6_dry_35, e_X6_dry_36, e_X6_dry_37, e_X6_dry_40, e_X6_dry_41, e_X6_dry_44, e_X6_dry_45, e_X6_dry_46, e_X6_dry_49, e_X6_dry_52, e_X6_dry_53, h1, if_true]
    rfl
  | succ k ih =>
    intro c s h
    have h1 : ¬ nI n ≤ nI c := nI_ge (by omega) (by omega)
    rw [e_X6_dry_30]
    simp only [e_X6_dry_0, e_X6_dry_1, e_X6_dry_4, e_X6_dry_7, e_X6_dry_10, e_X6_dry_12, e_X6_dry_13, e_X6_dry_14, e_X6_dry_15, e_X6_dry_17, e_X6_dry_20, e_X6_dry_23, e_X6_dry_25, e_X6_dry_26, e_X6_dry_27, e_X6_dry_28, e_X6_dry_29, e_X6_dry_31, e_X6_dry_32, e_X6_dry_35, e_X6_dry_36, e_X6_dry_37, e_X6_dry_40, e_X6_dry_41, e_X6_dry_44, e_X6_dry_45, e_X6_dry_46, e_X6_dry_49, e_X6_dry_52, e_X6_dry_53, h1, if_false, q_dry (show jm_ia 200 = true by decide) g, jm_bd_v, nI_add, ih _ _ (show c + 1 + k = n by omega)]
    rfl
theorem lp_X7_dry {C N n : Nat} {x m : Nat → Nat → Int32} (hn : n ≤ 60) (g : GN C N x (m 221)) : ∀ (k c : Nat) (s : Int32), c + k = n → jm_R 12 md_X7_dry 29 [.ref 217, .int (nI n), .int s, .int (nI c)] [] (jm_mk m) = some (some (.int (orL (drB x C) k c s)), jm_mk m) := by
  intro k
  induction k with
  | zero =>
    intro c s h
    have h1 : nI n ≤ nI c := nI_le (by omega) (by omega)
    rw [e_X7_dry_29]
    simp only [e_X7_dry_0, e_X7_dry_1, e_X7_dry_4, e_X7_dry_7, e_X7_dry_9, e_X7_dry_10, e_X7_dry_11, e_X7_dry_12, e_X7_dry_13, e_X7_dry_16, e_X7_dry_19, e_X7_dry_22, e_X7_dry_24, e_X7_dry_25, e_X7_dry_26, e_X7_dry_27, e_X7_dry_28, e_X7_dry_30, e_X7_dry_31, e_X7_dry_34, e_X7_dry_35, e_X7_dry_36, e_X7_dry_37, e_X7_dry_40, e_X7_dry_41, e_X7_dry_42, e_X7_dry_43, e_X7_dry_44, e_X7_dry_47, e_X7_dry_48, e_X7_dry_49, e_X7_dry_52, e_X7_dry_55, e_X7_dry_56, h1, if_true]
    rfl
  | succ k ih =>
    intro c s h
    have h1 : ¬ nI n ≤ nI c := nI_ge (by omega) (by omega)
    rw [e_X7_dry_29]
    simp only [e_X7_dry_0, e_X7_dry_1, e_X7_dry_4, e_X7_dry_7, e_X7_dry_9, e_X7_dry_10, e_X7_dry_11, e_X7_dry_12, e_X7_dry_13, e_X7_dry_16, e_X7_dry_19, e_X7_dry_22, e_X7_dry_24, e_X7_dry_25, e_X7_dry_26, e_X7_dry_27, e_X7_dry_28, e_X7_dry_30, e_X7_dry_31, e_X7_dry_34, e_X7_dry_35, e_X7_dry_36, e_X7_dry_37, e_X7_dry_40, e_X7_dry_41, e_X7_dry_42, e_X7_dry_43, e_X7_dry_44, e_X7_dry_47, e_X7_dry_48, e_X7_dry_49, e_X7_dry_52, e_X7_dry_55, e_X7_dry_56, h1, if_false, show (5 : Nat) < 44 by decide, q_mdry g, jm_bd_v, nI_add, ih _ _ (show c + 1 + k = n by omega), dr_dr g]
    rfl
theorem api_dry (n : Int32) : Api md_X6_dry md_X7_dry [.int n] := by
  refine Api.ask (fun m hR => ?_)
  obtain ⟨C, N, hC6, hN6, c6, m4, c5, m3, hcase⟩ := hR.isle
  have hI : jm_ia 200 = true := by decide
  rcases hcase with ⟨q0, q1, q2⟩ | ⟨q0, q2, g⟩
  · subst q0
    refine ⟨.int (-1000002), m, m, ?_, ?_, AG.refl⟩
    · show jm_R 12 md_X6_dry 0 [.ref 0, .int n, .null, .null] [] _ = _
      simp only [e_X6_dry_0, e_X6_dry_1, e_X6_dry_4, e_X6_dry_7, e_X6_dry_10, e_X6_dry_12, e_X6_dry_13, e_X6_dry_14, e_X6_dry_15, e_X6_dry_17, e_X6_dry_20, e_X6_dry_23, e_X6_dry_25, e_X6_dry_26, e_X6_dry_27, e_X6_dry_28, e_X6_dry_29, e_X6_dry_31, e_X6_dry_32, e_X6_dry_35, e_X6_dry_36, e_X6_dry_37, e_X6_dry_40, e_X6_dry_41, e_X6_dry_44, e_X6_dry_45, e_X6_dry_46, e_X6_dry_49, e_X6_dry_52, e_X6_dry_53, k_X2_hasBoat hI, k_X2_stands hI, k_X2_hasCell hI, c6, c5, k_X6_within, jm_bd_v, jm_bd_0, bv1, if_false, if_true, not_false_eq_true, not_true_eq_false, nI_le (Nat.le_refl 0) (show 0 < 2 ^ 31 by decide)]
    · show jm_R 12 md_X7_dry 0 [.ref 217, .int n, .null, .null] [] _ = _
      simp only [e_X7_dry_0, e_X7_dry_1, e_X7_dry_4, e_X7_dry_7, e_X7_dry_9, e_X7_dry_10, e_X7_dry_11, e_X7_dry_12, e_X7_dry_13, e_X7_dry_16, e_X7_dry_19, e_X7_dry_22, e_X7_dry_24, e_X7_dry_25, e_X7_dry_26, e_X7_dry_27, e_X7_dry_28, e_X7_dry_30, e_X7_dry_31, e_X7_dry_34, e_X7_dry_35, e_X7_dry_36, e_X7_dry_37, e_X7_dry_40, e_X7_dry_41, e_X7_dry_42, e_X7_dry_43, e_X7_dry_44, e_X7_dry_47, e_X7_dry_48, e_X7_dry_49, e_X7_dry_52, e_X7_dry_55, e_X7_dry_56, q2, k_X7_isBoat m4 hN6, k_X7_isCell m3 hC6, in_0_60, in_1_60, in_1_40, in_0_1, in_1_24, in_0_3, in_1_9, in_0_2, in_1_12, in_0_10, in_1_999999, in_0_5, in_0_255, k_X7_isRow, k_X7_isWhat, jm_bd_v, jm_bd_0, bv1, if_false, if_true, not_false_eq_true, not_true_eq_false]
  · have hst := stN q0 hN6
    have hth := thereOf q2
    by_cases hn : ¬ n < nI 1 ∧ ¬ nI 60 < n
    · obtain ⟨k, -, hk, rfl⟩ := rg_of hn (by omega) (by omega)
      refine ⟨.int (orL (drB (vwI m 200) C) k 0 (nI 0)), m, m, ?_, ?_, AG.refl⟩
      · show jm_R 12 md_X6_dry 0 [.ref 0, .int (nI k), .null, .null] [] _ = _
        simp only [e_X6_dry_0, e_X6_dry_1, e_X6_dry_4, e_X6_dry_7, e_X6_dry_10, e_X6_dry_12, e_X6_dry_13, e_X6_dry_14, e_X6_dry_15, e_X6_dry_17, e_X6_dry_20, e_X6_dry_23, e_X6_dry_25, e_X6_dry_26, e_X6_dry_27, e_X6_dry_28, e_X6_dry_29, e_X6_dry_31, e_X6_dry_32, e_X6_dry_35, e_X6_dry_36, e_X6_dry_37, e_X6_dry_40, e_X6_dry_41, e_X6_dry_44, e_X6_dry_45, e_X6_dry_46, e_X6_dry_49, e_X6_dry_52, e_X6_dry_53, k_X2_hasBoat hI, k_X2_stands hI, k_X2_hasCell hI, c6, c5, k_X6_within, jm_bd_v, jm_bd_0, bv1, if_false, if_true, not_false_eq_true, not_true_eq_false, hst, if_pos hn]
        exact lp_X6_dry hk g k 0 (nI 0) (by omega)
      · show jm_R 12 md_X7_dry 0 [.ref 217, .int (nI k), .null, .null] [] _ = _
        simp only [e_X7_dry_0, e_X7_dry_1, e_X7_dry_4, e_X7_dry_7, e_X7_dry_9, e_X7_dry_10, e_X7_dry_11, e_X7_dry_12, e_X7_dry_13, e_X7_dry_16, e_X7_dry_19, e_X7_dry_22, e_X7_dry_24, e_X7_dry_25, e_X7_dry_26, e_X7_dry_27, e_X7_dry_28, e_X7_dry_30, e_X7_dry_31, e_X7_dry_34, e_X7_dry_35, e_X7_dry_36, e_X7_dry_37, e_X7_dry_40, e_X7_dry_41, e_X7_dry_42, e_X7_dry_43, e_X7_dry_44, e_X7_dry_47, e_X7_dry_48, e_X7_dry_49, e_X7_dry_52, e_X7_dry_55, e_X7_dry_56, k_X7_isBoat m4 hN6, k_X7_isCell m3 hC6, in_0_60, in_1_60, in_1_40, in_0_1, in_1_24, in_0_3, in_1_9, in_0_2, in_1_12, in_0_10, in_1_999999, in_0_5, in_0_255, k_X7_isRow, k_X7_isWhat, jm_bd_v, jm_bd_0, bv1, if_false, if_true, not_false_eq_true, not_true_eq_false, hth, if_pos hn]
        exact lp_X7_dry hk g k 0 (nI 0) (by omega)
    · refine ⟨.int (-1000001), m, m, ?_, ?_, AG.refl⟩
      · show jm_R 12 md_X6_dry 0 [.ref 0, .int n, .null, .null] [] _ = _
        simp only [e_X6_dry_0, e_X6_dry_1, e_X6_dry_4, e_X6_dry_7, e_X6_dry_10, e_X6_dry_12, e_X6_dry_13, e_X6_dry_14, e_X6_dry_15, e_X6_dry_17, e_X6_dry_20, e_X6_dry_23, e_X6_dry_25, e_X6_dry_26, e_X6_dry_27, e_X6_dry_28, e_X6_dry_29, e_X6_dry_31, e_X6_dry_32, e_X6_dry_35, e_X6_dry_36, e_X6_dry_37, e_X6_dry_40, e_X6_dry_41, e_X6_dry_44, e_X6_dry_45, e_X6_dry_46, e_X6_dry_49, e_X6_dry_52, e_X6_dry_53, k_X2_hasBoat hI, k_X2_stands hI, k_X2_hasCell hI, c6, c5, k_X6_within, jm_bd_v, jm_bd_0, bv1, if_false, if_true, not_false_eq_true, not_true_eq_false, hst, if_neg hn]
      · show jm_R 12 md_X7_dry 0 [.ref 217, .int n, .null, .null] [] _ = _
        simp only [e_X7_dry_0, e_X7_dry_1, e_X7_dry_4, e_X7_dry_7, e_X7_dry_9, e_X7_dry_10, e_X7_dry_11, e_X7_dry_12, e_X7_dry_13, e_X7_dry_16, e_X7_dry_19, e_X7_dry_22, e_X7_dry_24, e_X7_dry_25, e_X7_dry_26, e_X7_dry_27, e_X7_dry_28, e_X7_dry_30, e_X7_dry_31, e_X7_dry_34, e_X7_dry_35, e_X7_dry_36, e_X7_dry_37, e_X7_dry_40, e_X7_dry_41, e_X7_dry_42, e_X7_dry_43, e_X7_dry_44, e_X7_dry_47, e_X7_dry_48, e_X7_dry_49, e_X7_dry_52, e_X7_dry_55, e_X7_dry_56, k_X7_isBoat m4 hN6, k_X7_isCell m3 hC6, in_0_60, in_1_60, in_1_40, in_0_1, in_1_24, in_0_3, in_1_9, in_0_2, in_1_12, in_0_10, in_1_999999, in_0_5, in_0_255, k_X7_isRow, k_X7_isWhat, jm_bd_v, jm_bd_0, bv1, if_false, if_true, not_false_eq_true, not_true_eq_false, hth, if_neg hn]
def opB (x : Nat → Nat → Int32) (C : Nat) (c : Nat) : Int32 := if shB x C c = true then nI 1 else nI 0
theorem lp_X6_open {C N n : Nat} {m : Nat → Nat → Int32} (hn : n ≤ 60) (g : GN C N (vwI m 200) (m 221)) : ∀ (k c : Nat) (s : Int32), c + k = n → jm_R 12 md_X6_open 30 [.ref 0, .int (nI n), .int s, .int (nI c)] [] (jm_mk m) = some (some (.int (sumL (opB (vwI m 200) C) k c s)), jm_mk m) := by
  intro k
  induction k with
  | zero =>
    intro c s h
    have h1 : nI n ≤ nI c := nI_le (by omega) (by omega)
    rw [e_X6_open_30]
    simp only [e_X6_open_0, e_X6_open_1, e_X6_open_4, e_X6_open_7, e_X6_open_10, e_X6_open_12, e_X6_open_13, e_X6_open_14, e_X6_open_15, e_X6_open_17, e_X6_open_20, e_X6_open_23, e_X6_open_25, e_X6_open_26, e_X6_open_27, e_X6_open_28, e_X6_open_29, e_X6_open_31, e_X6_open_32, e_X6_open_35, e_X6_open_36, e_X6_open_37, e_X6_open_40, e_X6_open_41, e_X6_open_44, e_X6_open_47, e_X6_open_48, e_X6_open_49, e_X6_open_52, e_X6_open_55, e_X6_open_56, h1, if_true]
    rfl
  | succ k ih =>
    intro c s h
    have h1 : ¬ nI n ≤ nI c := nI_ge (by omega) (by omega)
    have eb : (if (if shwL (vwI m 200 1) (watI (vwI m 200) (nI c)) C 0 = true then nI 1 else nI 0) = nI 0 then nI 0 else nI 1) = opB (vwI m 200) C c := by
      unfold opB shB
      by_cases q : shwL (vwI m 200 1) (watI (vwI m 200) (nI c)) C 0 = true
      · rw [if_pos q, if_neg bv1]
      · rw [if_neg q, if_pos rfl]
    rw [e_X6_open_30]
    simp only [e_X6_open_0, e_X6_open_1, e_X6_open_4, e_X6_open_7, e_X6_open_10, e_X6_open_12, e_X6_open_13, e_X6_open_14, e_X6_open_15, e_X6_open_17, e_X6_open_20, e_X6_open_23, e_X6_open_25, e_X6_open_26, e_X6_open_27, e_X6_open_28, e_X6_open_29, e_X6_open_31, e_X6_open_32, e_X6_open_35, e_X6_open_36, e_X6_open_37, e_X6_open_40, e_X6_open_41, e_X6_open_44, e_X6_open_47, e_X6_open_48, e_X6_open_49, e_X6_open_52, e_X6_open_55, e_X6_open_56, h1, if_false, q_shows (show jm_ia 200 = true by decide) g, jm_bd_v, nI_add, k_X6_bit, eb, ih _ _ (show c + 1 + k = n by omega)]
    rfl
theorem lp_X7_openIn {C N n d : Nat} {x m : Nat → Nat → Int32} (hn : n ≤ 60) (g : GN C N x (m 221)) : ∀ (k c : Nat) (s : Int32), c + k = n → jm_R (d + 2) md_X7_openIn 4 [.ref 217, .int (nI n), .int s, .int (nI c)] [] (jm_mk m) = some (some (.int (sumL (opB x C) k c s)), jm_mk m) := by
  intro k
  induction k with
  | zero =>
    intro c s h
    have h1 : nI n ≤ nI c := nI_le (by omega) (by omega)
    rw [e_X7_openIn_4]
    simp only [e_X7_openIn_0, e_X7_openIn_1, e_X7_openIn_2, e_X7_openIn_3, e_X7_openIn_5, e_X7_openIn_6, e_X7_openIn_9, e_X7_openIn_10, e_X7_openIn_11, e_X7_openIn_12, e_X7_openIn_15, e_X7_openIn_16, e_X7_openIn_17, e_X7_openIn_18, e_X7_openIn_19, e_X7_openIn_22, e_X7_openIn_25, e_X7_openIn_26, e_X7_openIn_29, e_X7_openIn_30, e_X7_openIn_31, e_X7_openIn_32, e_X7_openIn_35, e_X7_openIn_38, e_X7_openIn_39, h1, if_true]
    rfl
  | succ k ih =>
    intro c s h
    have h1 : ¬ nI n ≤ nI c := nI_ge (by omega) (by omega)
    rw [e_X7_openIn_4]
    simp only [e_X7_openIn_0, e_X7_openIn_1, e_X7_openIn_2, e_X7_openIn_3, e_X7_openIn_5, e_X7_openIn_6, e_X7_openIn_9, e_X7_openIn_10, e_X7_openIn_11, e_X7_openIn_12, e_X7_openIn_15, e_X7_openIn_16, e_X7_openIn_17, e_X7_openIn_18, e_X7_openIn_19, e_X7_openIn_22, e_X7_openIn_25, e_X7_openIn_26, e_X7_openIn_29, e_X7_openIn_30, e_X7_openIn_31, e_X7_openIn_32, e_X7_openIn_35, e_X7_openIn_38, e_X7_openIn_39, h1, if_false, show (5 : Nat) < 44 by decide, q_mdry g, jm_bd_v, nI_add, ih _ _ (show c + 1 + k = n by omega), sh_dr g]
    show _ = some (some (Value.int (sumL (opB x C) k (c + 1) (s + opB x C c))), _)
    unfold opB
    cases q : shB x C c with
    | true => simp only [if_true, Bool.true_eq_false, if_false]
    | false => simp only [if_true, Bool.false_eq_true, if_false]
theorem k_X7_openIn {C N n d : Nat} {x m : Nat → Nat → Int32} (hn : n ≤ 60) (g : GN C N x (m 221)) : jm_K (d + 2) md_X7_openIn [.ref 217, .int (nI n)] (jm_mk m) = some (some (.int (sumL (opB x C) n 0 (nI 0))), jm_mk m) := by
  show jm_R (d + 2) md_X7_openIn 0 [.ref 217, .int (nI n), .null, .null] [] _ = _
  simp only [e_X7_openIn_0, e_X7_openIn_1, e_X7_openIn_2, e_X7_openIn_3, e_X7_openIn_5, e_X7_openIn_6, e_X7_openIn_9, e_X7_openIn_10, e_X7_openIn_11, e_X7_openIn_12, e_X7_openIn_15, e_X7_openIn_16, e_X7_openIn_17, e_X7_openIn_18, e_X7_openIn_19, e_X7_openIn_22, e_X7_openIn_25, e_X7_openIn_26, e_X7_openIn_29, e_X7_openIn_30, e_X7_openIn_31, e_X7_openIn_32, e_X7_openIn_35, e_X7_openIn_38, e_X7_openIn_39]
  exact lp_X7_openIn hn g n 0 (nI 0) (by omega)
theorem api_open (n : Int32) : Api md_X6_open md_X7_open [.int n] := by
  refine Api.ask (fun m hR => ?_)
  obtain ⟨C, N, hC6, hN6, c6, m4, c5, m3, hcase⟩ := hR.isle
  have hI : jm_ia 200 = true := by decide
  rcases hcase with ⟨q0, q1, q2⟩ | ⟨q0, q2, g⟩
  · subst q0
    refine ⟨.int (-1000002), m, m, ?_, ?_, AG.refl⟩
    · show jm_R 12 md_X6_open 0 [.ref 0, .int n, .null, .null] [] _ = _
      simp only [e_X6_open_0, e_X6_open_1, e_X6_open_4, e_X6_open_7, e_X6_open_10, e_X6_open_12, e_X6_open_13, e_X6_open_14, e_X6_open_15, e_X6_open_17, e_X6_open_20, e_X6_open_23, e_X6_open_25, e_X6_open_26, e_X6_open_27, e_X6_open_28, e_X6_open_29, e_X6_open_31, e_X6_open_32, e_X6_open_35, e_X6_open_36, e_X6_open_37, e_X6_open_40, e_X6_open_41, e_X6_open_44, e_X6_open_47, e_X6_open_48, e_X6_open_49, e_X6_open_52, e_X6_open_55, e_X6_open_56, k_X2_hasBoat hI, k_X2_stands hI, k_X2_hasCell hI, c6, c5, k_X6_within, jm_bd_v, jm_bd_0, bv1, if_false, if_true, not_false_eq_true, not_true_eq_false, nI_le (Nat.le_refl 0) (show 0 < 2 ^ 31 by decide)]
    · show jm_R 12 md_X7_open 0 [.ref 217, .int n] [] _ = _
      simp only [e_X7_open_0, e_X7_open_1, e_X7_open_4, e_X7_open_7, e_X7_open_9, e_X7_open_12, e_X7_open_13, e_X7_open_14, e_X7_open_15, e_X7_open_18, e_X7_open_21, e_X7_open_24, e_X7_open_26, e_X7_open_29, e_X7_open_30, e_X7_open_31, e_X7_open_34, q2, k_X7_isBoat m4 hN6, k_X7_isCell m3 hC6, in_0_60, in_1_60, in_1_40, in_0_1, in_1_24, in_0_3, in_1_9, in_0_2, in_1_12, in_0_10, in_1_999999, in_0_5, in_0_255, k_X7_isRow, k_X7_isWhat, jm_bd_v, jm_bd_0, bv1, if_false, if_true, not_false_eq_true, not_true_eq_false]
  · have hst := stN q0 hN6
    have hth := thereOf q2
    by_cases hn : ¬ n < nI 1 ∧ ¬ nI 60 < n
    · obtain ⟨k, -, hk, rfl⟩ := rg_of hn (by omega) (by omega)
      refine ⟨.int (sumL (opB (vwI m 200) C) k 0 (nI 0)), m, m, ?_, ?_, AG.refl⟩
      · show jm_R 12 md_X6_open 0 [.ref 0, .int (nI k), .null, .null] [] _ = _
        simp only [e_X6_open_0, e_X6_open_1, e_X6_open_4, e_X6_open_7, e_X6_open_10, e_X6_open_12, e_X6_open_13, e_X6_open_14, e_X6_open_15, e_X6_open_17, e_X6_open_20, e_X6_open_23, e_X6_open_25, e_X6_open_26, e_X6_open_27, e_X6_open_28, e_X6_open_29, e_X6_open_31, e_X6_open_32, e_X6_open_35, e_X6_open_36, e_X6_open_37, e_X6_open_40, e_X6_open_41, e_X6_open_44, e_X6_open_47, e_X6_open_48, e_X6_open_49, e_X6_open_52, e_X6_open_55, e_X6_open_56, k_X2_hasBoat hI, k_X2_stands hI, k_X2_hasCell hI, c6, c5, k_X6_within, jm_bd_v, jm_bd_0, bv1, if_false, if_true, not_false_eq_true, not_true_eq_false, hst, if_pos hn]
        exact lp_X6_open hk g k 0 (nI 0) (by omega)
      · show jm_R 12 md_X7_open 0 [.ref 217, .int (nI k)] [] _ = _
        simp only [e_X7_open_0, e_X7_open_1, e_X7_open_4, e_X7_open_7, e_X7_open_9, e_X7_open_12, e_X7_open_13, e_X7_open_14, e_X7_open_15, e_X7_open_18, e_X7_open_21, e_X7_open_24, e_X7_open_26, e_X7_open_29, e_X7_open_30, e_X7_open_31, e_X7_open_34, k_X7_isBoat m4 hN6, k_X7_isCell m3 hC6, in_0_60, in_1_60, in_1_40, in_0_1, in_1_24, in_0_3, in_1_9, in_0_2, in_1_12, in_0_10, in_1_999999, in_0_5, in_0_255, k_X7_isRow, k_X7_isWhat, jm_bd_v, jm_bd_0, bv1, if_false, if_true, not_false_eq_true, not_true_eq_false, hth, if_pos hn, k_X7_openIn hk g]
    · refine ⟨.int (-1000001), m, m, ?_, ?_, AG.refl⟩
      · show jm_R 12 md_X6_open 0 [.ref 0, .int n, .null, .null] [] _ = _
        simp only [e_X6_open_0, e_X6_open_1, e_X6_open_4, e_X6_open_7, e_X6_open_10, e_X6_open_12, e_X6_open_13, e_X6_open_14, e_X6_open_15, e_X6_open_17, e_X6_open_20, e_X6_open_23, e_X6_open_25, e_X6_open_26, e_X6_open_27, e_X6_open_28, e_X6_open_29, e_X6_open_31, e_X6_open_32, e_X6_open_35, e_X6_open_36, e_X6_open_37, e_X6_open_40, e_X6_open_41, e_X6_open_44, e_X6_open_47, e_X6_open_48, e_X6_open_49, e_X6_open_52, e_X6_open_55, e_X6_open_56, k_X2_hasBoat hI, k_X2_stands hI, k_X2_hasCell hI, c6, c5, k_X6_within, jm_bd_v, jm_bd_0, bv1, if_false, if_true, not_false_eq_true, not_true_eq_false, hst, if_neg hn]
      · show jm_R 12 md_X7_open 0 [.ref 217, .int n] [] _ = _
        simp only [e_X7_open_0, e_X7_open_1, e_X7_open_4, e_X7_open_7, e_X7_open_9, e_X7_open_12, e_X7_open_13, e_X7_open_14, e_X7_open_15, e_X7_open_18, e_X7_open_21, e_X7_open_24, e_X7_open_26, e_X7_open_29, e_X7_open_30, e_X7_open_31, e_X7_open_34, k_X7_isBoat m4 hN6, k_X7_isCell m3 hC6, in_0_60, in_1_60, in_1_40, in_0_1, in_1_24, in_0_3, in_1_9, in_0_2, in_1_12, in_0_10, in_1_999999, in_0_5, in_0_255, k_X7_isRow, k_X7_isWhat, jm_bd_v, jm_bd_0, bv1, if_false, if_true, not_false_eq_true, not_true_eq_false, hth, if_neg hn]
