/-! sandFor -/
def shY (y : Nat → Int32) (C c : Nat) : Bool := !decide (dryMs y (watM y (y 5 + nI c)) C 0 (nI 0) = nI 0)
theorem GN.shy {C N : Nat} {x : Nat → Nat → Int32} {y : Nat → Int32} (g : GN C N x y) (c : Nat) : shB x C c = shY y C c := by
  unfold shY
  simp only [sh_dr (c := c) g]
  cases shB x C c <;> rfl
def alL (p : Nat → Bool) : Nat → Nat → Bool
  | 0, _ => true
  | k + 1, c => if p c = true then alL p k (c + 1) else false
theorem alL_s {p : Nat → Bool} {k c : Nat} : alL p (k + 1) c = if p c = true then alL p k (c + 1) else false := rfl
def cnL (p : Nat → Bool) : Nat → Nat → Nat
  | 0, _ => 0
  | k + 1, c => (if p c = true then 1 else 0) + cnL p k (c + 1)
theorem cnL_s {p : Nat → Bool} {k c : Nat} : cnL p (k + 1) c = (if p c = true then 1 else 0) + cnL p k (c + 1) := rfl
theorem cn_al {p : Nat → Bool} : ∀ (k c : Nat), cnL p k c ≤ k ∧ (cnL p k c = k ↔ alL p k c = true)
  | 0, c => ⟨Nat.le_refl _, by simp [cnL, alL]⟩
  | k + 1, c => by
    obtain ⟨h1, h2⟩ := cn_al (p := p) k (c + 1)
    rw [cnL_s, alL_s]
    by_cases q : p c = true
    · rw [if_pos q, if_pos q, ← h2]
      omega
    · rw [if_neg q, if_neg q]
      refine ⟨by omega, ⟨fun h => by omega, fun h => by cases h⟩⟩
theorem sum_cn {x : Nat → Nat → Int32} {C : Nat} : ∀ (k c s : Nat), sumL (opB x C) k c (nI s) = nI (s + cnL (shB x C) k c)
  | 0, c, s => rfl
  | k + 1, c, s => by
    show sumL (opB x C) k (c + 1) (nI s + opB x C c) = _
    rw [cnL_s]
    by_cases q : shB x C c = true
    · have e : opB x C c = nI 1 := if_pos q
      rw [e, if_pos q, nI_add, sum_cn, show s + 1 + cnL (shB x C) k (c + 1) = s + (1 + cnL (shB x C) k (c + 1)) by omega]
    · have e : opB x C c = nI 0 := if_neg q
      rw [e, if_neg q, nI_add, sum_cn, show s + 0 + cnL (shB x C) k (c + 1) = s + (0 + cnL (shB x C) k (c + 1)) by omega]
def saB (y : Nat → Int32) (C n v : Nat) : Bool := alL (shY (upd y 8 (nI v)) C) n 0
theorem p_X2_shows {d C N : Nat} {m x : Nat → Nat → Int32} {y : Nat → Int32} {a : Nat} (ha : jm_ia a = true) {k : Int32} (g : GN C N x y) : jm_K (d + 1) md_X2_showsBehind [.ref a, .int k] (jm_mk (wrI m a x)) = some (some (.int (if shwL (x 1) (watI x k) C 0 = true then nI 1 else nI 0)), jm_mk (wrI m a x)) := by
  obtain ⟨o, a1, a2, a3, a4, a5, a6, a7, a8, hv, hr⟩ := g.all
  exact k_X2_shows ha a1 a2 a5 a6
theorem lp_X4_showsAll {d C N n : Nat} {m x : Nat → Nat → Int32} {y : Nat → Int32} {l1 : Int32} (hn : n < 1000) (g : GN C N x y) : ∀ (k c : Nat), c + k = n → jm_R (d + 2) md_X4_showsAllBy 23 [.ref 207, .int l1, .int (nI n), .int (nI c)] [] (jm_mk (wrI m 208 x)) = some (some (.int (if alL (shY y C) k c = true then nI 1 else nI 0)), jm_mk (wrI m 208 x)) := by
  have ha : jm_ia 208 = true := by decide
  intro k
  induction k with
  | zero =>
    intro c h
    have h1 : nI n ≤ nI c := nI_le (by omega) (by omega)
    rw [e_X4_showsAllBy_23]
    simp only [e_X4_showsAllBy_0, e_X4_showsAllBy_1, e_X4_showsAllBy_4, e_X4_showsAllBy_5, e_X4_showsAllBy_8, e_X4_showsAllBy_11, e_X4_showsAllBy_12, e_X4_showsAllBy_15, e_X4_showsAllBy_18, e_X4_showsAllBy_19, e_X4_showsAllBy_20, e_X4_showsAllBy_21, e_X4_showsAllBy_22, e_X4_showsAllBy_24, e_X4_showsAllBy_25, e_X4_showsAllBy_28, e_X4_showsAllBy_29, e_X4_showsAllBy_32, e_X4_showsAllBy_33, e_X4_showsAllBy_36, e_X4_showsAllBy_39, e_X4_showsAllBy_40, e_X4_showsAllBy_41, e_X4_showsAllBy_44, e_X4_showsAllBy_47, e_X4_showsAllBy_48, h1, if_true, true_or, or_true]
    rfl
  | succ k ih =>
    intro c h
    have h1 : ¬ nI n ≤ nI c := nI_ge (by omega) (by omega)
    have h2 := p_X2_shows (d := d) (m := m) (k := nI c) ha g
    have h3 : shwL (x 1) (watI x (nI c)) C 0 = shY y C c := g.shy c
    rw [h3] at h2
    rw [e_X4_showsAllBy_23, alL_s]
    by_cases q : shY y C c = true
    · simp only [e_X4_showsAllBy_0, e_X4_showsAllBy_1, e_X4_showsAllBy_4, e_X4_showsAllBy_5, e_X4_showsAllBy_8, e_X4_showsAllBy_11, e_X4_showsAllBy_12, e_X4_showsAllBy_15, e_X4_showsAllBy_18, e_X4_showsAllBy_19, e_X4_showsAllBy_20, e_X4_showsAllBy_21, e_X4_showsAllBy_22, e_X4_showsAllBy_24, e_X4_showsAllBy_25, e_X4_showsAllBy_28, e_X4_showsAllBy_29, e_X4_showsAllBy_32, e_X4_showsAllBy_33, e_X4_showsAllBy_36, e_X4_showsAllBy_39, e_X4_showsAllBy_40, e_X4_showsAllBy_41, e_X4_showsAllBy_44, e_X4_showsAllBy_47, e_X4_showsAllBy_48, h1, if_false, h2, jm_bd_v, if_pos q, bv1, not_false_eq_true, if_true, nI_add, ih (c + 1) (by omega)]
    · simp only [e_X4_showsAllBy_0, e_X4_showsAllBy_1, e_X4_showsAllBy_4, e_X4_showsAllBy_5, e_X4_showsAllBy_8, e_X4_showsAllBy_11, e_X4_showsAllBy_12, e_X4_showsAllBy_15, e_X4_showsAllBy_18, e_X4_showsAllBy_19, e_X4_showsAllBy_20, e_X4_showsAllBy_21, e_X4_showsAllBy_22, e_X4_showsAllBy_24, e_X4_showsAllBy_25, e_X4_showsAllBy_28, e_X4_showsAllBy_29, e_X4_showsAllBy_32, e_X4_showsAllBy_33, e_X4_showsAllBy_36, e_X4_showsAllBy_39, e_X4_showsAllBy_40, e_X4_showsAllBy_41, e_X4_showsAllBy_44, e_X4_showsAllBy_47, e_X4_showsAllBy_48, h1, if_false, h2, jm_bd_v, if_neg q, not_true_eq_false, true_or, or_true, Bool.false_eq_true]
theorem k_X4_showsAll {d C N n v : Nat} {m x : Nat → Nat → Int32} {y : Nat → Int32} (hn : n < 1000) (g : GN C N (vwI m 200) y) : ∃ x', jm_K (d + 2) md_X4_showsAllBy [.ref 207, .int (nI v), .int (nI n)] (jm_mk (wrI m 208 x)) = some (some (.int (if saB y C n v = true then nI 1 else nI 0)), jm_mk (wrI m 208 x')) := by
  have ha : jm_ia 208 = true := by decide
  have g1 := (g.bec (w := x)).hgt (c := 0) (v := nI v) g.C1
  refine ⟨jm_up (becI x (vwI m 200)) 1 0 (nI v), ?_⟩
  show jm_R (d + 2) md_X4_showsAllBy 0 [.ref 207, .int (nI v), .int (nI n), .null] [] _ = _
  have hl := lp_X4_showsAll (d := d) (m := m) (l1 := nI v) hn g1 n 0 (by omega)
  simp only [e_X4_showsAllBy_0, e_X4_showsAllBy_1, e_X4_showsAllBy_4, e_X4_showsAllBy_5, e_X4_showsAllBy_8, e_X4_showsAllBy_11, e_X4_showsAllBy_12, e_X4_showsAllBy_15, e_X4_showsAllBy_18, e_X4_showsAllBy_19, e_X4_showsAllBy_20, e_X4_showsAllBy_21, e_X4_showsAllBy_22, e_X4_showsAllBy_24, e_X4_showsAllBy_25, e_X4_showsAllBy_28, e_X4_showsAllBy_29, e_X4_showsAllBy_32, e_X4_showsAllBy_33, e_X4_showsAllBy_36, e_X4_showsAllBy_39, e_X4_showsAllBy_40, e_X4_showsAllBy_41, e_X4_showsAllBy_44, e_X4_showsAllBy_47, e_X4_showsAllBy_48, k_bec, jm_bd_0, ha, show (0 : Nat) < 6 by decide, wrI_u1]
  exact hl
theorem lp_X6_sandFor {C N n : Nat} {m : Nat → Nat → Int32} {y : Nat → Int32} (hn : n < 1000) (g : GN C N (vwI m 200) y) : ∀ (k c : Nat) (x : Nat → Nat → Int32), c + k = 41 → ∃ x', jm_R 12 md_X6_sandFor 28 [.ref 0, .int (nI n), .int (nI c)] [] (jm_mk (wrI m 208 x)) = some (some (.int (fsL (saB y C n) k c)), jm_mk (wrI m 208 x')) := by
  intro k
  induction k with
  | zero =>
    intro c x h
    have h1 : nI 40 < nI c := nI_lt (by omega) (by omega)
    refine ⟨x, ?_⟩
    rw [e_X6_sandFor_28]
    simp only [e_X6_sandFor_0, e_X6_sandFor_1, e_X6_sandFor_4, e_X6_sandFor_7, e_X6_sandFor_10, e_X6_sandFor_12, e_X6_sandFor_13, e_X6_sandFor_14, e_X6_sandFor_15, e_X6_sandFor_17, e_X6_sandFor_20, e_X6_sandFor_23, e_X6_sandFor_25, e_X6_sandFor_26, e_X6_sandFor_27, e_X6_sandFor_29, e_X6_sandFor_31, e_X6_sandFor_34, e_X6_sandFor_35, e_X6_sandFor_38, e_X6_sandFor_39, e_X6_sandFor_40, e_X6_sandFor_43, e_X6_sandFor_46, e_X6_sandFor_47, e_X6_sandFor_48, e_X6_sandFor_51, e_X6_sandFor_54, e_X6_sandFor_56, h1, if_true]
    rfl
  | succ k ih =>
    intro c x h
    have h1 : ¬ nI 40 < nI c := nI_nlt (by omega) (by omega)
    obtain ⟨x1, e1⟩ := k_X4_showsAll (d := 9) (m := m) (x := x) (n := n) (v := c) hn g
    obtain ⟨x2, e2⟩ := ih (c + 1) x1 (by omega)
    rw [fsL_s]
    by_cases q : saB y C n c = true
    · refine ⟨x1, ?_⟩
      rw [e_X6_sandFor_28]
      simp only [e_X6_sandFor_0, e_X6_sandFor_1, e_X6_sandFor_4, e_X6_sandFor_7, e_X6_sandFor_10, e_X6_sandFor_12, e_X6_sandFor_13, e_X6_sandFor_14, e_X6_sandFor_15, e_X6_sandFor_17, e_X6_sandFor_20, e_X6_sandFor_23, e_X6_sandFor_25, e_X6_sandFor_26, e_X6_sandFor_27, e_X6_sandFor_29, e_X6_sandFor_31, e_X6_sandFor_34, e_X6_sandFor_35, e_X6_sandFor_38, e_X6_sandFor_39, e_X6_sandFor_40, e_X6_sandFor_43, e_X6_sandFor_46, e_X6_sandFor_47, e_X6_sandFor_48, e_X6_sandFor_51, e_X6_sandFor_54, e_X6_sandFor_56, h1, if_false, e1, jm_bd_v, if_pos q, bv1]
    · refine ⟨x2, ?_⟩
      rw [e_X6_sandFor_28]
      simp only [e_X6_sandFor_0, e_X6_sandFor_1, e_X6_sandFor_4, e_X6_sandFor_7, e_X6_sandFor_10, e_X6_sandFor_12, e_X6_sandFor_13, e_X6_sandFor_14, e_X6_sandFor_15, e_X6_sandFor_17, e_X6_sandFor_20, e_X6_sandFor_23, e_X6_sandFor_25, e_X6_sandFor_26, e_X6_sandFor_27, e_X6_sandFor_29, e_X6_sandFor_31, e_X6_sandFor_34, e_X6_sandFor_35, e_X6_sandFor_38, e_X6_sandFor_39, e_X6_sandFor_40, e_X6_sandFor_43, e_X6_sandFor_46, e_X6_sandFor_47, e_X6_sandFor_48, e_X6_sandFor_51, e_X6_sandFor_54, e_X6_sandFor_56, h1, if_false, e1, jm_bd_v, if_neg q, if_true, nI_add, e2]
theorem wrA_fn {m : Nat → Nat → Int32} {A : Nat} {f : Nat → Int32} : wrA m A f A = f := by
  funext j
  exact if_pos rfl
theorem upd_upd {f : Nat → Int32} {k : Nat} {u v : Int32} : upd (upd f k u) k v = upd f k v := by
  funext j
  by_cases q : j = k
  · subst q; rw [pk_us, pk_us]
  · rw [pk_un q, pk_un q, pk_un q]
theorem upd_self {f : Nat → Int32} {k : Nat} : upd f k (f k) = f := by
  funext j
  by_cases q : j = k
  · subst q; rw [pk_us]
  · rw [pk_un q]
theorem lp_X7_sandFor {C N n : Nat} {m x : Nat → Nat → Int32} {z : Nat → Int32} (hn : n ≤ 60) (g : GN C N x z) : ∀ (k c : Nat) (u : Int32), c + k = 41 → jm_R 12 md_X7_sandFor 39 [.ref 217, .int (nI n), .int (z 8), .int (-1000000), .int (nI c)] [] (jm_mk (wrA m 221 (upd z 8 u))) = some (some (.int (fsL (saB z C n) k c)), jm_mk (wrA m 221 z)) := by
  intro k
  induction k with
  | zero =>
    intro c u h
    have h1 : nI 40 < nI c := nI_lt (by omega) (by omega)
    rw [e_X7_sandFor_39]
    simp only [e_X7_sandFor_0, e_X7_sandFor_1, e_X7_sandFor_4, e_X7_sandFor_7, e_X7_sandFor_9, e_X7_sandFor_10, e_X7_sandFor_11, e_X7_sandFor_12, e_X7_sandFor_13, e_X7_sandFor_16, e_X7_sandFor_19, e_X7_sandFor_22, e_X7_sandFor_24, e_X7_sandFor_25, e_X7_sandFor_26, e_X7_sandFor_29, e_X7_sandFor_31, e_X7_sandFor_32, e_X7_sandFor_33, e_X7_sandFor_35, e_X7_sandFor_36, e_X7_sandFor_37, e_X7_sandFor_41, e_X7_sandFor_43, e_X7_sandFor_46, e_X7_sandFor_47, e_X7_sandFor_50, e_X7_sandFor_51, e_X7_sandFor_54, e_X7_sandFor_56, e_X7_sandFor_58, e_X7_sandFor_59, e_X7_sandFor_60, e_X7_sandFor_61, e_X7_sandFor_64, e_X7_sandFor_65, e_X7_sandFor_68, e_X7_sandFor_70, e_X7_sandFor_73, e_X7_sandFor_74, e_X7_sandFor_75, e_X7_sandFor_78, e_X7_sandFor_81, e_X7_sandFor_82, e_X7_sandFor_85, e_X7_sandFor_87, e_X7_sandFor_88, e_X7_sandFor_89, e_X7_sandFor_90, h1, if_true, show (8 : Nat) < 44 by decide, wrA_up, upd_upd, upd_self]
    rfl
  | succ k ih =>
    intro c u h
    have h1 : ¬ nI 40 < nI c := nI_nlt (by omega) (by omega)
    have h2 : ¬ nI 0 ≤ (-1000000 : Int32) := by decide
    have g1 := g.hgt (c := 0) (v := nI c) g.C1
    have h3 := k_X7_openIn (d := 9) (m := wrA m 221 (upd z 8 (nI c))) (n := n) hn (by rw [wrA_fn]; exact g1)
    rw [sum_cn, Nat.zero_add] at h3
    have h4 : cnL (shB (jm_up x 1 0 (nI c)) C) n 0 = n ↔ saB z C n c = true := by
      have := (cn_al (p := shB (jm_up x 1 0 (nI c)) C) n 0).2
      rw [this]
      unfold saB
      rw [show shB (jm_up x 1 0 (nI c)) C = shY (upd z 8 (nI c)) C from funext (fun c' => g1.shy c')]
    have h5 := (cn_al (p := shB (jm_up x 1 0 (nI c)) C) n 0).1
    rw [fsL_s]
    by_cases q : saB z C n c = true
    · have h6 := h4.mpr q
      rw [h6] at h3
      rw [if_pos q, e_X7_sandFor_39]
      simp only [e_X7_sandFor_0, e_X7_sandFor_1, e_X7_sandFor_4, e_X7_sandFor_7, e_X7_sandFor_9, e_X7_sandFor_10, e_X7_sandFor_11, e_X7_sandFor_12, e_X7_sandFor_13, e_X7_sandFor_16, e_X7_sandFor_19, e_X7_sandFor_22, e_X7_sandFor_24, e_X7_sandFor_25, e_X7_sandFor_26, e_X7_sandFor_29, e_X7_sandFor_31, e_X7_sandFor_32, e_X7_sandFor_33, e_X7_sandFor_35, e_X7_sandFor_36, e_X7_sandFor_37, e_X7_sandFor_41, e_X7_sandFor_43, e_X7_sandFor_46, e_X7_sandFor_47, e_X7_sandFor_50, e_X7_sandFor_51, e_X7_sandFor_54, e_X7_sandFor_56, e_X7_sandFor_58, e_X7_sandFor_59, e_X7_sandFor_60, e_X7_sandFor_61, e_X7_sandFor_64, e_X7_sandFor_65, e_X7_sandFor_68, e_X7_sandFor_70, e_X7_sandFor_73, e_X7_sandFor_74, e_X7_sandFor_75, e_X7_sandFor_78, e_X7_sandFor_81, e_X7_sandFor_82, e_X7_sandFor_85, e_X7_sandFor_87, e_X7_sandFor_88, e_X7_sandFor_89, e_X7_sandFor_90, h1, h2, if_false, show (8 : Nat) < 44 by decide, wrA_up, upd_upd, h3, jm_bd_v, not_true_eq_false, nI_add]
      rw [e_X7_sandFor_39]
      have h7 : nI 0 ≤ nI c := nI_le (Nat.zero_le _) (by omega)
      simp only [e_X7_sandFor_0, e_X7_sandFor_1, e_X7_sandFor_4, e_X7_sandFor_7, e_X7_sandFor_9, e_X7_sandFor_10, e_X7_sandFor_11, e_X7_sandFor_12, e_X7_sandFor_13, e_X7_sandFor_16, e_X7_sandFor_19, e_X7_sandFor_22, e_X7_sandFor_24, e_X7_sandFor_25, e_X7_sandFor_26, e_X7_sandFor_29, e_X7_sandFor_31, e_X7_sandFor_32, e_X7_sandFor_33, e_X7_sandFor_35, e_X7_sandFor_36, e_X7_sandFor_37, e_X7_sandFor_41, e_X7_sandFor_43, e_X7_sandFor_46, e_X7_sandFor_47, e_X7_sandFor_50, e_X7_sandFor_51, e_X7_sandFor_54, e_X7_sandFor_56, e_X7_sandFor_58, e_X7_sandFor_59, e_X7_sandFor_60, e_X7_sandFor_61, e_X7_sandFor_64, e_X7_sandFor_65, e_X7_sandFor_68, e_X7_sandFor_70, e_X7_sandFor_73, e_X7_sandFor_74, e_X7_sandFor_75, e_X7_sandFor_78, e_X7_sandFor_81, e_X7_sandFor_82, e_X7_sandFor_85, e_X7_sandFor_87, e_X7_sandFor_88, e_X7_sandFor_89, e_X7_sandFor_90, h7, if_true, show (8 : Nat) < 44 by decide, wrA_up, upd_upd, upd_self]
      by_cases q8 : nI 40 < nI (c + 1)
      · rw [if_pos q8]
      · rw [if_neg q8]
    · have h6 : ¬ nI (cnL (shB (jm_up x 1 0 (nI c)) C) n 0) = nI n := fun h => q (h4.mp ((nI_eq (by omega) (by omega)).mp h))
      rw [if_neg q, e_X7_sandFor_39]
      simp only [e_X7_sandFor_0, e_X7_sandFor_1, e_X7_sandFor_4, e_X7_sandFor_7, e_X7_sandFor_9, e_X7_sandFor_10, e_X7_sandFor_11, e_X7_sandFor_12, e_X7_sandFor_13, e_X7_sandFor_16, e_X7_sandFor_19, e_X7_sandFor_22, e_X7_sandFor_24, e_X7_sandFor_25, e_X7_sandFor_26, e_X7_sandFor_29, e_X7_sandFor_31, e_X7_sandFor_32, e_X7_sandFor_33, e_X7_sandFor_35, e_X7_sandFor_36, e_X7_sandFor_37, e_X7_sandFor_41, e_X7_sandFor_43, e_X7_sandFor_46, e_X7_sandFor_47, e_X7_sandFor_50, e_X7_sandFor_51, e_X7_sandFor_54, e_X7_sandFor_56, e_X7_sandFor_58, e_X7_sandFor_59, e_X7_sandFor_60, e_X7_sandFor_61, e_X7_sandFor_64, e_X7_sandFor_65, e_X7_sandFor_68, e_X7_sandFor_70, e_X7_sandFor_73, e_X7_sandFor_74, e_X7_sandFor_75, e_X7_sandFor_78, e_X7_sandFor_81, e_X7_sandFor_82, e_X7_sandFor_85, e_X7_sandFor_87, e_X7_sandFor_88, e_X7_sandFor_89, e_X7_sandFor_90, h1, h2, if_false, show (8 : Nat) < 44 by decide, wrA_up, upd_upd, h3, jm_bd_v, h6, not_false_eq_true, if_true, nI_add, ih (c + 1) _ (show c + 1 + k = 41 by omega)]
theorem api_sandFor (n : Int32) : Api md_X6_sandFor md_X7_sandFor [.int n] := by
  refine Api.try (fun m hR => ?_)
  obtain ⟨C, N, hC6, hN6, c6, m4, c5, m3, hcase⟩ := hR.isle
  have hI : jm_ia 200 = true := by decide
  rcases hcase with ⟨q0, q1, q2⟩ | ⟨q0, q2, g⟩
  · subst q0
    refine Api.no (r := .int (-1000002)) ?_ (fun m' h7 h1 => ?_)
    · show jm_R 12 md_X6_sandFor 0 [.ref 0, .int n, .null] [] _ = _
      simp only [e_X6_sandFor_0, e_X6_sandFor_1, e_X6_sandFor_4, e_X6_sandFor_7, e_X6_sandFor_10, e_X6_sandFor_12, e_X6_sandFor_13, e_X6_sandFor_14, e_X6_sandFor_15, e_X6_sandFor_17, e_X6_sandFor_20, e_X6_sandFor_23, e_X6_sandFor_25, e_X6_sandFor_26, e_X6_sandFor_27, e_X6_sandFor_29, e_X6_sandFor_31, e_X6_sandFor_34, e_X6_sandFor_35, e_X6_sandFor_38, e_X6_sandFor_39, e_X6_sandFor_40, e_X6_sandFor_43, e_X6_sandFor_46, e_X6_sandFor_47, e_X6_sandFor_48, e_X6_sandFor_51, e_X6_sandFor_54, e_X6_sandFor_56, k_X2_hasBoat hI, k_X2_stands hI, k_X2_hasCell hI, c6, c5, k_X6_within, jm_bd_v, jm_bd_0, bv1, if_false, if_true, not_false_eq_true, not_true_eq_false, nI_le (Nat.le_refl 0) (show 0 < 2 ^ 31 by decide)]
    · show jm_R 12 md_X7_sandFor 0 [.ref 217, .int n, .null, .null, .null] [] _ = _
      simp only [e_X7_sandFor_0, e_X7_sandFor_1, e_X7_sandFor_4, e_X7_sandFor_7, e_X7_sandFor_9, e_X7_sandFor_10, e_X7_sandFor_11, e_X7_sandFor_12, e_X7_sandFor_13, e_X7_sandFor_16, e_X7_sandFor_19, e_X7_sandFor_22, e_X7_sandFor_24, e_X7_sandFor_25, e_X7_sandFor_26, e_X7_sandFor_29, e_X7_sandFor_31, e_X7_sandFor_32, e_X7_sandFor_33, e_X7_sandFor_35, e_X7_sandFor_36, e_X7_sandFor_37, e_X7_sandFor_41, e_X7_sandFor_43, e_X7_sandFor_46, e_X7_sandFor_47, e_X7_sandFor_50, e_X7_sandFor_51, e_X7_sandFor_54, e_X7_sandFor_56, e_X7_sandFor_58, e_X7_sandFor_59, e_X7_sandFor_60, e_X7_sandFor_61, e_X7_sandFor_64, e_X7_sandFor_65, e_X7_sandFor_68, e_X7_sandFor_70, e_X7_sandFor_73, e_X7_sandFor_74, e_X7_sandFor_75, e_X7_sandFor_78, e_X7_sandFor_81, e_X7_sandFor_82, e_X7_sandFor_85, e_X7_sandFor_87, e_X7_sandFor_88, e_X7_sandFor_89, e_X7_sandFor_90, h7, q2, k_X7_isBoat m4 hN6, k_X7_isCell m3 hC6, in_0_60, in_1_60, in_1_40, in_0_1, in_1_24, in_0_3, in_1_9, in_0_2, in_1_12, in_0_10, in_1_999999, in_0_5, in_0_255, k_X7_isRow, k_X7_isWhat, jm_bd_v, jm_bd_0, bv1, if_false, if_true, not_false_eq_true, not_true_eq_false]
  · have hst := stN q0 hN6
    have hth := thereOf q2
    by_cases hn : ¬ n < nI 1 ∧ ¬ nI 60 < n
    · obtain ⟨k, -, hk, rfl⟩ := rg_of hn (by omega) (by omega)
      obtain ⟨x1, e1⟩ := lp_X6_sandFor (m := m) (n := k) (by omega) g 41 0 (vwI m 208) rfl
      rw [wrI_self] at e1
      refine ⟨.int (fsL (saB (m 221) C k) 41 0), x1, ?_, fun m1 hm => ⟨m 226, m 221, ?_, fun j hj => rfl⟩⟩
      · show jm_R 12 md_X6_sandFor 0 [.ref 0, .int (nI k), .null] [] _ = _
        simp only [e_X6_sandFor_0, e_X6_sandFor_1, e_X6_sandFor_4, e_X6_sandFor_7, e_X6_sandFor_10, e_X6_sandFor_12, e_X6_sandFor_13, e_X6_sandFor_14, e_X6_sandFor_15, e_X6_sandFor_17, e_X6_sandFor_20, e_X6_sandFor_23, e_X6_sandFor_25, e_X6_sandFor_26, e_X6_sandFor_27, e_X6_sandFor_29, e_X6_sandFor_31, e_X6_sandFor_34, e_X6_sandFor_35, e_X6_sandFor_38, e_X6_sandFor_39, e_X6_sandFor_40, e_X6_sandFor_43, e_X6_sandFor_46, e_X6_sandFor_47, e_X6_sandFor_48, e_X6_sandFor_51, e_X6_sandFor_54, e_X6_sandFor_56, k_X2_hasBoat hI, k_X2_stands hI, k_X2_hasCell hI, c6, c5, k_X6_within, jm_bd_v, jm_bd_0, bv1, if_false, if_true, not_false_eq_true, not_true_eq_false, hst, if_pos hn]
        exact e1
      · show jm_R 12 md_X7_sandFor 0 [.ref 217, .int (nI k), .null, .null, .null] [] _ = _
        have e5 : wrA (wrA m1 226 (m 226)) 221 (m 221) 217 4 = m 217 4 := by rw [wrA_ne (by decide), wrA_ne (by decide), hm 217 (by decide)]
        have e2 := lp_X7_sandFor (m := wrA m1 226 (m 226)) (n := k) hk g 41 0 (m 221 8) rfl
        rw [upd_self] at e2
        simp only [e_X7_sandFor_0, e_X7_sandFor_1, e_X7_sandFor_4, e_X7_sandFor_7, e_X7_sandFor_9, e_X7_sandFor_10, e_X7_sandFor_11, e_X7_sandFor_12, e_X7_sandFor_13, e_X7_sandFor_16, e_X7_sandFor_19, e_X7_sandFor_22, e_X7_sandFor_24, e_X7_sandFor_25, e_X7_sandFor_26, e_X7_sandFor_29, e_X7_sandFor_31, e_X7_sandFor_32, e_X7_sandFor_33, e_X7_sandFor_35, e_X7_sandFor_36, e_X7_sandFor_37, e_X7_sandFor_41, e_X7_sandFor_43, e_X7_sandFor_46, e_X7_sandFor_47, e_X7_sandFor_50, e_X7_sandFor_51, e_X7_sandFor_54, e_X7_sandFor_56, e_X7_sandFor_58, e_X7_sandFor_59, e_X7_sandFor_60, e_X7_sandFor_61, e_X7_sandFor_64, e_X7_sandFor_65, e_X7_sandFor_68, e_X7_sandFor_70, e_X7_sandFor_73, e_X7_sandFor_74, e_X7_sandFor_75, e_X7_sandFor_78, e_X7_sandFor_81, e_X7_sandFor_82, e_X7_sandFor_85, e_X7_sandFor_87, e_X7_sandFor_88, e_X7_sandFor_89, e_X7_sandFor_90, k_X7_isBoat m4 hN6, k_X7_isCell m3 hC6, in_0_60, in_1_60, in_1_40, in_0_1, in_1_24, in_0_3, in_1_9, in_0_2, in_1_12, in_0_10, in_1_999999, in_0_5, in_0_255, k_X7_isRow, k_X7_isWhat, jm_bd_v, jm_bd_0, bv1, if_false, if_true, not_false_eq_true, not_true_eq_false, e5, hth, if_pos hn, show (8 : Nat) < 44 by decide, wrA_at]
        exact e2
    · refine Api.no (r := .int (-1000001)) ?_ (fun m' h7 h1 => ?_)
      · show jm_R 12 md_X6_sandFor 0 [.ref 0, .int n, .null] [] _ = _
        simp only [e_X6_sandFor_0, e_X6_sandFor_1, e_X6_sandFor_4, e_X6_sandFor_7, e_X6_sandFor_10, e_X6_sandFor_12, e_X6_sandFor_13, e_X6_sandFor_14, e_X6_sandFor_15, e_X6_sandFor_17, e_X6_sandFor_20, e_X6_sandFor_23, e_X6_sandFor_25, e_X6_sandFor_26, e_X6_sandFor_27, e_X6_sandFor_29, e_X6_sandFor_31, e_X6_sandFor_34, e_X6_sandFor_35, e_X6_sandFor_38, e_X6_sandFor_39, e_X6_sandFor_40, e_X6_sandFor_43, e_X6_sandFor_46, e_X6_sandFor_47, e_X6_sandFor_48, e_X6_sandFor_51, e_X6_sandFor_54, e_X6_sandFor_56, k_X2_hasBoat hI, k_X2_stands hI, k_X2_hasCell hI, c6, c5, k_X6_within, jm_bd_v, jm_bd_0, bv1, if_false, if_true, not_false_eq_true, not_true_eq_false, hst, if_neg hn]
      · show jm_R 12 md_X7_sandFor 0 [.ref 217, .int n, .null, .null, .null] [] _ = _
        simp only [e_X7_sandFor_0, e_X7_sandFor_1, e_X7_sandFor_4, e_X7_sandFor_7, e_X7_sandFor_9, e_X7_sandFor_10, e_X7_sandFor_11, e_X7_sandFor_12, e_X7_sandFor_13, e_X7_sandFor_16, e_X7_sandFor_19, e_X7_sandFor_22, e_X7_sandFor_24, e_X7_sandFor_25, e_X7_sandFor_26, e_X7_sandFor_29, e_X7_sandFor_31, e_X7_sandFor_32, e_X7_sandFor_33, e_X7_sandFor_35, e_X7_sandFor_36, e_X7_sandFor_37, e_X7_sandFor_41, e_X7_sandFor_43, e_X7_sandFor_46, e_X7_sandFor_47, e_X7_sandFor_50, e_X7_sandFor_51, e_X7_sandFor_54, e_X7_sandFor_56, e_X7_sandFor_58, e_X7_sandFor_59, e_X7_sandFor_60, e_X7_sandFor_61, e_X7_sandFor_64, e_X7_sandFor_65, e_X7_sandFor_68, e_X7_sandFor_70, e_X7_sandFor_73, e_X7_sandFor_74, e_X7_sandFor_75, e_X7_sandFor_78, e_X7_sandFor_81, e_X7_sandFor_82, e_X7_sandFor_85, e_X7_sandFor_87, e_X7_sandFor_88, e_X7_sandFor_89, e_X7_sandFor_90, k_X7_isBoat m4 hN6, k_X7_isCell m3 hC6, in_0_60, in_1_60, in_1_40, in_0_1, in_1_24, in_0_3, in_1_9, in_0_2, in_1_12, in_0_10, in_1_999999, in_0_5, in_0_255, k_X7_isRow, k_X7_isWhat, jm_bd_v, jm_bd_0, bv1, if_false, if_true, not_false_eq_true, not_true_eq_false, h7, hth, if_neg hn]
