/-! rich, count -/
def richV (f : Nat → Int32) : Option Nat → Int32
  | none => nI 0
  | some b => f b
def richL (f : Nat → Int32) : Nat → Nat → Option Nat → Option Nat
  | 0, _, o => o
  | k + 1, c, o => richL f k (c + 1) (if f c ≤ richV f o then o else some c)
theorem richL_s {f : Nat → Int32} {k c : Nat} {o : Option Nat} : richL f (k + 1) c o = richL f k (c + 1) (if f c ≤ richV f o then o else some c) := rfl
theorem lp_X6_rich {N : Nat} {m : Nat → Nat → Int32} (hN : m 200 6 = nI N) (hN6 : N ≤ 6) : ∀ (k c : Nat) (o : Option Nat), (∀ b, o = some b → b < 6) → c + k = N → jm_R 12 md_X6_rich 17 [.ref 0, .int (ovI o), .int (nI c)] [] (jm_mk m) = some (some (.int (if ovI (richL (m 206) k c o) = -1 then -1000000 else ovI (richL (m 206) k c o))), jm_mk m) := by
  have hI : jm_ia 200 = true := by decide
  intro k
  induction k with
  | zero =>
    intro c o ho h
    have h1 : nI N ≤ nI c := nI_le (by omega) (by omega)
    rw [e_X6_rich_17]
    simp only [e_X6_rich_0, e_X6_rich_1, e_X6_rich_4, e_X6_rich_7, e_X6_rich_10, e_X6_rich_12, e_X6_rich_13, e_X6_rich_14, e_X6_rich_15, e_X6_rich_16, e_X6_rich_18, e_X6_rich_19, e_X6_rich_22, e_X6_rich_25, e_X6_rich_28, e_X6_rich_29, e_X6_rich_32, e_X6_rich_35, e_X6_rich_36, e_X6_rich_37, e_X6_rich_38, e_X6_rich_39, e_X6_rich_42, e_X6_rich_43, e_X6_rich_46, e_X6_rich_47, e_X6_rich_50, e_X6_rich_53, e_X6_rich_54, e_X6_rich_55, e_X6_rich_58, e_X6_rich_59, e_X6_rich_60, e_X6_rich_63, e_X6_rich_66, e_X6_rich_67, e_X6_rich_70, hI, hN, h1, if_true, k_X6_boatOrNone, jm_bd_v]
    rfl
  | succ k ih =>
    intro c o ho h
    have h1 : ¬ nI N ≤ nI c := nI_ge (by omega) (by omega)
    have h6 : c < 6 := by omega
    rw [richL_s]
    rw [e_X6_rich_17]
    cases o with
    | none =>
      have i1 := ih (c + 1) none (fun b hb => by cases hb) (by omega)
      have i2 := ih (c + 1) (some c) (fun b hb => by cases hb; exact h6) (by omega)
      show _ = some (some (Value.int (if ovI (richL (m 206) k (c + 1) (if m 206 c ≤ nI 0 then none else some c)) = -1 then -1000000 else ovI (richL (m 206) k (c + 1) (if m 206 c ≤ nI 0 then none else some c)))), jm_mk m)
      by_cases q : m 206 c ≤ nI 0
      · rw [if_pos q]
        unfold ovI at i1 ⊢
        simp only [e_X6_rich_0, e_X6_rich_1, e_X6_rich_4, e_X6_rich_7, e_X6_rich_10, e_X6_rich_12, e_X6_rich_13, e_X6_rich_14, e_X6_rich_15, e_X6_rich_16, e_X6_rich_18, e_X6_rich_19, e_X6_rich_22, e_X6_rich_25, e_X6_rich_28, e_X6_rich_29, e_X6_rich_32, e_X6_rich_35, e_X6_rich_36, e_X6_rich_37, e_X6_rich_38, e_X6_rich_39, e_X6_rich_42, e_X6_rich_43, e_X6_rich_46, e_X6_rich_47, e_X6_rich_50, e_X6_rich_53, e_X6_rich_54, e_X6_rich_55, e_X6_rich_58, e_X6_rich_59, e_X6_rich_60, e_X6_rich_63, e_X6_rich_66, e_X6_rich_67, e_X6_rich_70, hI, hN, h1, if_true, if_false, h6, nI_add, not_true_eq_false, if_pos q, i1]
      · rw [if_neg q]
        unfold ovI at i2 ⊢
        simp only [e_X6_rich_0, e_X6_rich_1, e_X6_rich_4, e_X6_rich_7, e_X6_rich_10, e_X6_rich_12, e_X6_rich_13, e_X6_rich_14, e_X6_rich_15, e_X6_rich_16, e_X6_rich_18, e_X6_rich_19, e_X6_rich_22, e_X6_rich_25, e_X6_rich_28, e_X6_rich_29, e_X6_rich_32, e_X6_rich_35, e_X6_rich_36, e_X6_rich_37, e_X6_rich_38, e_X6_rich_39, e_X6_rich_42, e_X6_rich_43, e_X6_rich_46, e_X6_rich_47, e_X6_rich_50, e_X6_rich_53, e_X6_rich_54, e_X6_rich_55, e_X6_rich_58, e_X6_rich_59, e_X6_rich_60, e_X6_rich_63, e_X6_rich_66, e_X6_rich_67, e_X6_rich_70, hI, hN, h1, if_true, if_false, h6, nI_add, not_true_eq_false, if_neg q, i2]
    | some b =>
      have hb := ho b rfl
      have i1 := ih (c + 1) (some b) (fun b' hb' => by cases hb'; exact hb) (by omega)
      have i2 := ih (c + 1) (some c) (fun b hb => by cases hb; exact h6) (by omega)
      have hbm := nI_m1 (show b < 2 ^ 31 by omega)
      show _ = some (some (Value.int (if ovI (richL (m 206) k (c + 1) (if m 206 c ≤ m 206 b then some b else some c)) = -1 then -1000000 else ovI (richL (m 206) k (c + 1) (if m 206 c ≤ m 206 b then some b else some c)))), jm_mk m)
      by_cases q : m 206 c ≤ m 206 b
      · rw [if_pos q]
        unfold ovI at i1 ⊢
        simp only [e_X6_rich_0, e_X6_rich_1, e_X6_rich_4, e_X6_rich_7, e_X6_rich_10, e_X6_rich_12, e_X6_rich_13, e_X6_rich_14, e_X6_rich_15, e_X6_rich_16, e_X6_rich_18, e_X6_rich_19, e_X6_rich_22, e_X6_rich_25, e_X6_rich_28, e_X6_rich_29, e_X6_rich_32, e_X6_rich_35, e_X6_rich_36, e_X6_rich_37, e_X6_rich_38, e_X6_rich_39, e_X6_rich_42, e_X6_rich_43, e_X6_rich_46, e_X6_rich_47, e_X6_rich_50, e_X6_rich_53, e_X6_rich_54, e_X6_rich_55, e_X6_rich_58, e_X6_rich_59, e_X6_rich_60, e_X6_rich_63, e_X6_rich_66, e_X6_rich_67, e_X6_rich_70, hI, hN, h1, if_true, if_false, h6, hb, hbm, nI_add, not_false_eq_true, if_pos q, i1]
      · rw [if_neg q]
        unfold ovI at i2 ⊢
        simp only [e_X6_rich_0, e_X6_rich_1, e_X6_rich_4, e_X6_rich_7, e_X6_rich_10, e_X6_rich_12, e_X6_rich_13, e_X6_rich_14, e_X6_rich_15, e_X6_rich_16, e_X6_rich_18, e_X6_rich_19, e_X6_rich_22, e_X6_rich_25, e_X6_rich_28, e_X6_rich_29, e_X6_rich_32, e_X6_rich_35, e_X6_rich_36, e_X6_rich_37, e_X6_rich_38, e_X6_rich_39, e_X6_rich_42, e_X6_rich_43, e_X6_rich_46, e_X6_rich_47, e_X6_rich_50, e_X6_rich_53, e_X6_rich_54, e_X6_rich_55, e_X6_rich_58, e_X6_rich_59, e_X6_rich_60, e_X6_rich_63, e_X6_rich_66, e_X6_rich_67, e_X6_rich_70, hI, hN, h1, if_true, if_false, h6, hb, hbm, nI_add, not_false_eq_true, if_neg q, i2]
def noV : Option Nat → Int32
  | none => -1000000
  | some b => nI b
theorem lp_X7_rich {N : Nat} {m : Nat → Nat → Int32} (hN : m 221 4 = nI N) (hN6 : N ≤ 6) : ∀ (k c : Nat) (o : Option Nat), c + k = N → jm_R 12 md_X7_rich 17 [.ref 217, .int (noV o), .int (richV (fun b => m 221 (38 + b)) o), .int (nI c)] [] (jm_mk m) = some (some (.int (noV (richL (fun b => m 221 (38 + b)) k c o))), jm_mk m) := by
  intro k
  induction k with
  | zero =>
    intro c o h
    have h1 : nI N ≤ nI c := nI_le (by omega) (by omega)
    rw [e_X7_rich_17]
    simp only [e_X7_rich_0, e_X7_rich_1, e_X7_rich_4, e_X7_rich_7, e_X7_rich_9, e_X7_rich_10, e_X7_rich_12, e_X7_rich_13, e_X7_rich_14, e_X7_rich_15, e_X7_rich_16, e_X7_rich_18, e_X7_rich_19, e_X7_rich_22, e_X7_rich_23, e_X7_rich_24, e_X7_rich_27, e_X7_rich_28, e_X7_rich_31, e_X7_rich_33, e_X7_rich_34, e_X7_rich_35, e_X7_rich_36, e_X7_rich_37, e_X7_rich_40, e_X7_rich_41, e_X7_rich_44, e_X7_rich_45, e_X7_rich_46, e_X7_rich_47, e_X7_rich_50, e_X7_rich_52, e_X7_rich_53, e_X7_rich_54, e_X7_rich_55, e_X7_rich_56, e_X7_rich_59, e_X7_rich_60, e_X7_rich_63, e_X7_rich_65, e_X7_rich_66, e_X7_rich_67, e_X7_rich_68, e_X7_rich_71, e_X7_rich_72, e_X7_rich_73, e_X7_rich_76, e_X7_rich_79, e_X7_rich_80, show (4 : Nat) < 44 by decide, hN, h1, if_true]
    rfl
  | succ k ih =>
    intro c o h
    have h1 : ¬ nI N ≤ nI c := nI_ge (by omega) (by omega)
    have h38 : 38 + c < 44 := by omega
    rw [richL_s]
    rw [e_X7_rich_17]
    simp only [e_X7_rich_0, e_X7_rich_1, e_X7_rich_4, e_X7_rich_7, e_X7_rich_9, e_X7_rich_10, e_X7_rich_12, e_X7_rich_13, e_X7_rich_14, e_X7_rich_15, e_X7_rich_16, e_X7_rich_18, e_X7_rich_19, e_X7_rich_22, e_X7_rich_23, e_X7_rich_24, e_X7_rich_27, e_X7_rich_28, e_X7_rich_31, e_X7_rich_33, e_X7_rich_34, e_X7_rich_35, e_X7_rich_36, e_X7_rich_37, e_X7_rich_40, e_X7_rich_41, e_X7_rich_44, e_X7_rich_45, e_X7_rich_46, e_X7_rich_47, e_X7_rich_50, e_X7_rich_52, e_X7_rich_53, e_X7_rich_54, e_X7_rich_55, e_X7_rich_56, e_X7_rich_59, e_X7_rich_60, e_X7_rich_63, e_X7_rich_65, e_X7_rich_66, e_X7_rich_67, e_X7_rich_68, e_X7_rich_71, e_X7_rich_72, e_X7_rich_73, e_X7_rich_76, e_X7_rich_79, e_X7_rich_80, show (4 : Nat) < 44 by decide, hN, h1, if_false, nI_add, h38]
    have i1 := ih (c + 1) o (by omega)
    have i2 := ih (c + 1) (some c) (by omega)
    by_cases q : m 221 (38 + c) ≤ richV (fun b => m 221 (38 + b)) o
    · simp only [if_pos q, i1]
    · simp only [if_neg q]
      exact i2
theorem rich_congr {f g : Nat → Int32} {N : Nat} (h : ∀ b, b < N → f b = g b) : ∀ (k c : Nat) (o : Option Nat), c + k = N → (∀ b, o = some b → b < N) → richL f k c o = richL g k c o ∧ ∀ b, richL f k c o = some b → b < N
  | 0, c, o, hk, ho => ⟨rfl, ho⟩
  | k + 1, c, o, hk, ho => by
    rw [richL_s, richL_s]
    have e : richV f o = richV g o := by
      cases o with
      | none => rfl
      | some b => exact h b (ho b rfl)
    rw [e, h c (by omega)]
    refine rich_congr h k (c + 1) _ (by omega) (fun b hb => ?_)
    by_cases q : g c ≤ richV g o
    · rw [if_pos q] at hb; exact ho b hb
    · rw [if_neg q] at hb; cases hb; omega
theorem api_rich : Api md_X6_rich md_X7_rich [] := by
  refine Api.ask (fun m hR => ?_)
  obtain ⟨C, N, hC6, hN6, c6, m4, c5, m3, hcase⟩ := hR.isle
  have hI : jm_ia 200 = true := by decide
  rcases hcase with ⟨q0, q1, q2⟩ | ⟨q0, q2, g⟩
  · subst q0
    refine ⟨.int (-1000002), m, m, ?_, ?_, AG.refl⟩
    · show jm_R 12 md_X6_rich 0 [.ref 0, .null, .null] [] _ = _
      simp only [e_X6_rich_0, e_X6_rich_1, e_X6_rich_4, e_X6_rich_7, e_X6_rich_10, e_X6_rich_12, e_X6_rich_13, e_X6_rich_14, e_X6_rich_15, e_X6_rich_16, e_X6_rich_18, e_X6_rich_19, e_X6_rich_22, e_X6_rich_25, e_X6_rich_28, e_X6_rich_29, e_X6_rich_32, e_X6_rich_35, e_X6_rich_36, e_X6_rich_37, e_X6_rich_38, e_X6_rich_39, e_X6_rich_42, e_X6_rich_43, e_X6_rich_46, e_X6_rich_47, e_X6_rich_50, e_X6_rich_53, e_X6_rich_54, e_X6_rich_55, e_X6_rich_58, e_X6_rich_59, e_X6_rich_60, e_X6_rich_63, e_X6_rich_66, e_X6_rich_67, e_X6_rich_70, k_X2_hasBoat hI, k_X2_stands hI, k_X2_hasCell hI, c6, c5, k_X6_within, jm_bd_v, jm_bd_0, bv1, if_false, if_true, not_false_eq_true, not_true_eq_false, nI_le (Nat.le_refl 0) (show 0 < 2 ^ 31 by decide)]
    · show jm_R 12 md_X7_rich 0 [.ref 217, .null, .null, .null] [] _ = _
      simp only [e_X7_rich_0, e_X7_rich_1, e_X7_rich_4, e_X7_rich_7, e_X7_rich_9, e_X7_rich_10, e_X7_rich_12, e_X7_rich_13, e_X7_rich_14, e_X7_rich_15, e_X7_rich_16, e_X7_rich_18, e_X7_rich_19, e_X7_rich_22, e_X7_rich_23, e_X7_rich_24, e_X7_rich_27, e_X7_rich_28, e_X7_rich_31, e_X7_rich_33, e_X7_rich_34, e_X7_rich_35, e_X7_rich_36, e_X7_rich_37, e_X7_rich_40, e_X7_rich_41, e_X7_rich_44, e_X7_rich_45, e_X7_rich_46, e_X7_rich_47, e_X7_rich_50, e_X7_rich_52, e_X7_rich_53, e_X7_rich_54, e_X7_rich_55, e_X7_rich_56, e_X7_rich_59, e_X7_rich_60, e_X7_rich_63, e_X7_rich_65, e_X7_rich_66, e_X7_rich_67, e_X7_rich_68, e_X7_rich_71, e_X7_rich_72, e_X7_rich_73, e_X7_rich_76, e_X7_rich_79, e_X7_rich_80, q2, k_X7_isBoat m4 hN6, k_X7_isCell m3 hC6, in_0_60, in_1_60, in_1_40, in_0_1, in_1_24, in_0_3, in_1_9, in_0_2, in_1_12, in_0_10, in_1_999999, in_0_5, in_0_255, k_X7_isRow, k_X7_isWhat, jm_bd_v, jm_bd_0, bv1, if_false, if_true, not_false_eq_true, not_true_eq_false]
  · have hst := stN q0 hN6
    have hth := thereOf q2
    obtain ⟨o, hv, hr⟩ := g
    obtain ⟨e1, e2⟩ := rich_congr (f := m 206) (g := fun b => m 221 (38 + b)) (N := N) (fun b hb => (hr.2.2 b hb).2.2.2.2) N 0 none (by omega) (fun b hb => by cases hb)
    have e3 : (if ovI (richL (m 206) N 0 none) = -1 then -1000000 else ovI (richL (m 206) N 0 none)) = noV (richL (m 206) N 0 none) := by
      cases h : richL (m 206) N 0 none with
      | none => rfl
      | some b => exact if_neg (nI_m1 (by have := e2 b h; omega))
    refine ⟨.int (noV (richL (m 206) N 0 none)), m, m, ?_, ?_, AG.refl⟩
    · show jm_R 12 md_X6_rich 0 [.ref 0, .null, .null] [] _ = _
      simp only [e_X6_rich_0, e_X6_rich_1, e_X6_rich_4, e_X6_rich_7, e_X6_rich_10, e_X6_rich_12, e_X6_rich_13, e_X6_rich_14, e_X6_rich_15, e_X6_rich_16, e_X6_rich_18, e_X6_rich_19, e_X6_rich_22, e_X6_rich_25, e_X6_rich_28, e_X6_rich_29, e_X6_rich_32, e_X6_rich_35, e_X6_rich_36, e_X6_rich_37, e_X6_rich_38, e_X6_rich_39, e_X6_rich_42, e_X6_rich_43, e_X6_rich_46, e_X6_rich_47, e_X6_rich_50, e_X6_rich_53, e_X6_rich_54, e_X6_rich_55, e_X6_rich_58, e_X6_rich_59, e_X6_rich_60, e_X6_rich_63, e_X6_rich_66, e_X6_rich_67, e_X6_rich_70, k_X2_hasBoat hI, k_X2_stands hI, k_X2_hasCell hI, c6, c5, k_X6_within, jm_bd_v, jm_bd_0, bv1, if_false, if_true, not_false_eq_true, not_true_eq_false, hst]
      rw [← e3]
      exact lp_X6_rich c6 hN6 N 0 none (fun b hb => by cases hb) (by omega)
    · show jm_R 12 md_X7_rich 0 [.ref 217, .null, .null, .null] [] _ = _
      simp only [e_X7_rich_0, e_X7_rich_1, e_X7_rich_4, e_X7_rich_7, e_X7_rich_9, e_X7_rich_10, e_X7_rich_12, e_X7_rich_13, e_X7_rich_14, e_X7_rich_15, e_X7_rich_16, e_X7_rich_18, e_X7_rich_19, e_X7_rich_22, e_X7_rich_23, e_X7_rich_24, e_X7_rich_27, e_X7_rich_28, e_X7_rich_31, e_X7_rich_33, e_X7_rich_34, e_X7_rich_35, e_X7_rich_36, e_X7_rich_37, e_X7_rich_40, e_X7_rich_41, e_X7_rich_44, e_X7_rich_45, e_X7_rich_46, e_X7_rich_47, e_X7_rich_50, e_X7_rich_52, e_X7_rich_53, e_X7_rich_54, e_X7_rich_55, e_X7_rich_56, e_X7_rich_59, e_X7_rich_60, e_X7_rich_63, e_X7_rich_65, e_X7_rich_66, e_X7_rich_67, e_X7_rich_68, e_X7_rich_71, e_X7_rich_72, e_X7_rich_73, e_X7_rich_76, e_X7_rich_79, e_X7_rich_80, k_X7_isBoat m4 hN6, k_X7_isCell m3 hC6, in_0_60, in_1_60, in_1_40, in_0_1, in_1_24, in_0_3, in_1_9, in_0_2, in_1_12, in_0_10, in_1_999999, in_0_5, in_0_255, k_X7_isRow, k_X7_isWhat, jm_bd_v, jm_bd_0, bv1, if_false, if_true, not_false_eq_true, not_true_eq_false, hth]
      rw [e1]
      exact lp_X7_rich m4 hN6 N 0 none (by omega)
theorem k_X3_isMissing {d r : Nat} {m : Nat → Nat → Int32} (hr : r < 8) : jm_K d md_X3_isMissing [.ref 1, .int (nI r)] (jm_mk m) = some (some (.int (if m 11 r = -1 then nI 1 else nI 0)), jm_mk m) := by
  show jm_R d md_X3_isMissing 0 [.ref 1, .int (nI r)] [] _ = _
  simp only [e_X3_isMissing_0, e_X3_isMissing_1, e_X3_isMissing_4, e_X3_isMissing_5, e_X3_isMissing_6, e_X3_isMissing_7, e_X3_isMissing_10, e_X3_isMissing_11, e_X3_isMissing_14, e_X3_isMissing_15, hr, true_or, or_true]
  by_cases q : m 11 r = -1
  · simp only [if_pos q, if_neg (fun h : ¬ m 11 r = -1 => h q)]
  · simp only [if_neg q, if_pos q]
def prB (f : Nat → Int32) (r : Nat) : Int32 := if f r = -1 then nI 0 else nI 1
theorem lp_X3_present {d : Nat} {m : Nat → Nat → Int32} : ∀ (k c : Nat) (s : Int32), c + k = 8 → jm_R (d + 1) md_X3_present 4 [.ref 1, .int s, .int (nI c)] [] (jm_mk m) = some (some (.int (sumL (prB (m 11)) k c s)), jm_mk m) := by
  intro k
  induction k with
  | zero =>
    intro c s h
    have h1 : nI 8 ≤ nI c := nI_le (by omega) (by omega)
    rw [e_X3_present_4]
    simp only [e_X3_present_0, e_X3_present_1, e_X3_present_2, e_X3_present_3, e_X3_present_5, e_X3_present_7, e_X3_present_10, e_X3_present_11, e_X3_present_12, e_X3_present_13, e_X3_present_16, e_X3_present_19, e_X3_present_20, e_X3_present_23, e_X3_present_24, e_X3_present_27, e_X3_present_28, e_X3_present_29, e_X3_present_32, e_X3_present_35, e_X3_present_36, h1, if_true]
    rfl
  | succ k ih =>
    intro c s h
    have h1 : ¬ nI 8 ≤ nI c := nI_ge (by omega) (by omega)
    have h8 : c < 8 := by omega
    rw [e_X3_present_4]
    show _ = some (some (Value.int (sumL (prB (m 11)) k (c + 1) (s + prB (m 11) c))), _)
    unfold prB
    by_cases q : m 11 c = -1
    · simp only [e_X3_present_0, e_X3_present_1, e_X3_present_2, e_X3_present_3, e_X3_present_5, e_X3_present_7, e_X3_present_10, e_X3_present_11, e_X3_present_12, e_X3_present_13, e_X3_present_16, e_X3_present_19, e_X3_present_20, e_X3_present_23, e_X3_present_24, e_X3_present_27, e_X3_present_28, e_X3_present_29, e_X3_present_32, e_X3_present_35, e_X3_present_36, h1, if_false, k_X3_isMissing h8, jm_bd_v, nI_add, k_X6_bit, ih _ _ (show c + 1 + k = 8 by omega), if_pos q, bv1, not_false_eq_true, not_true_eq_false, if_true]
      rfl
    · simp only [e_X3_present_0, e_X3_present_1, e_X3_present_2, e_X3_present_3, e_X3_present_5, e_X3_present_7, e_X3_present_10, e_X3_present_11, e_X3_present_12, e_X3_present_13, e_X3_present_16, e_X3_present_19, e_X3_present_20, e_X3_present_23, e_X3_present_24, e_X3_present_27, e_X3_present_28, e_X3_present_29, e_X3_present_32, e_X3_present_35, e_X3_present_36, h1, if_false, k_X3_isMissing h8, jm_bd_v, nI_add, k_X6_bit, ih _ _ (show c + 1 + k = 8 by omega), if_neg q, bv1, not_false_eq_true, not_true_eq_false, if_true]
      rfl
theorem k_X3_present {d : Nat} {m : Nat → Nat → Int32} : jm_K (d + 1) md_X3_present [.ref 1] (jm_mk m) = some (some (.int (sumL (prB (m 11)) 8 0 (nI 0))), jm_mk m) := by
  show jm_R (d + 1) md_X3_present 0 [.ref 1, .null, .null] [] _ = _
  simp only [e_X3_present_0, e_X3_present_1, e_X3_present_2, e_X3_present_3, e_X3_present_5, e_X3_present_7, e_X3_present_10, e_X3_present_11, e_X3_present_12, e_X3_present_13, e_X3_present_16, e_X3_present_19, e_X3_present_20, e_X3_present_23, e_X3_present_24, e_X3_present_27, e_X3_present_28, e_X3_present_29, e_X3_present_32, e_X3_present_35, e_X3_present_36]
  exact lp_X3_present 8 0 (nI 0) rfl
theorem lp_X7_count {m : Nat → Nat → Int32} {w : Int32} (h : R1 m) : ∀ (k c : Nat) (s : Int32), c + k = 8 → jm_R 12 md_X7_count 4 [.ref 217, .int w, .int s, .int (nI c)] [] (jm_mk m) = jm_R 12 md_X7_count 4 [.ref 217, .int w, .int (sumL (prB (m 11)) k c s), .int (nI 8)] [] (jm_mk m) := by
  intro k
  induction k with
  | zero =>
    intro c s hc
    have e : c = 8 := by omega
    subst e
    rfl
  | succ k ih =>
    intro c s hc
    have h1 : ¬ nI 8 ≤ nI c := nI_ge (by omega) (by omega)
    have h8 : c < 8 := by omega
    show _ = jm_R 12 md_X7_count 4 [.ref 217, .int w, .int (sumL (prB (m 11)) k (c + 1) (s + prB (m 11) c)), .int (nI 8)] [] (jm_mk m)
    rw [e_X7_count_4]
    rcases h c h8 with ⟨a1, a2⟩ | ⟨k', n, a1, a2, a3, a4, a5, a6, a7⟩
    · have hm : m 219 c < nI 0 := by rw [a2]; decide
      have e2 : prB (m 11) c = nI 0 := if_pos a1
      simp only [e_X7_count_0, e_X7_count_1, e_X7_count_2, e_X7_count_3, e_X7_count_5, e_X7_count_7, e_X7_count_10, e_X7_count_11, e_X7_count_12, e_X7_count_15, e_X7_count_16, e_X7_count_17, e_X7_count_20, e_X7_count_21, e_X7_count_24, e_X7_count_25, e_X7_count_26, e_X7_count_27, e_X7_count_30, e_X7_count_33, e_X7_count_34, e_X7_count_80, e_X7_count_81, e_X7_count_82, e_X7_count_83, e_X7_count_86, e_X7_count_87, e_X7_count_88, e_X7_count_89, e_X7_count_90, e_X7_count_93, e_X7_count_94, e_X7_count_95, e_X7_count_96, e_X7_count_97, e_X7_count_100, e_X7_count_101, e_X7_count_102, e_X7_count_103, e_X7_count_104, e_X7_count_107, e_X7_count_109, e_X7_count_110, e_X7_count_111, e_X7_count_112, e_X7_count_115, e_X7_count_116, e_X7_count_117, e_X7_count_120, e_X7_count_121, e_X7_count_122, e_X7_count_125, e_X7_count_126, e_X7_count_128, h1, if_false, h8, hm, nI_add, if_true]
      rw [e2]
      exact ih (c + 1) _ (by omega)
    · have hm : ¬ m 219 c < nI 0 := by rw [a6]; exact nI_nlt0 (by omega)
      have e2 : prB (m 11) c = nI 1 := if_neg (by rw [a3]; exact nI_m1 (by omega))
      simp only [e_X7_count_0, e_X7_count_1, e_X7_count_2, e_X7_count_3, e_X7_count_5, e_X7_count_7, e_X7_count_10, e_X7_count_11, e_X7_count_12, e_X7_count_15, e_X7_count_16, e_X7_count_17, e_X7_count_20, e_X7_count_21, e_X7_count_24, e_X7_count_25, e_X7_count_26, e_X7_count_27, e_X7_count_30, e_X7_count_33, e_X7_count_34, e_X7_count_80, e_X7_count_81, e_X7_count_82, e_X7_count_83, e_X7_count_86, e_X7_count_87, e_X7_count_88, e_X7_count_89, e_X7_count_90, e_X7_count_93, e_X7_count_94, e_X7_count_95, e_X7_count_96, e_X7_count_97, e_X7_count_100, e_X7_count_101, e_X7_count_102, e_X7_count_103, e_X7_count_104, e_X7_count_107, e_X7_count_109, e_X7_count_110, e_X7_count_111, e_X7_count_112, e_X7_count_115, e_X7_count_116, e_X7_count_117, e_X7_count_120, e_X7_count_121, e_X7_count_122, e_X7_count_125, e_X7_count_126, e_X7_count_128, h1, if_false, h8, hm, if_true, nI_add]
      rw [e2]
      exact ih (c + 1) _ (by omega)
theorem api_count (w : Int32) : Api md_X6_count md_X7_count [.int w] := by
  refine Api.ask (fun m hR => ?_)
  have hR1 := hR.1
  obtain ⟨t3, k3, -, t31, t32, -⟩ := hR.2.2.1
  obtain ⟨e5, k5, -, -, -, t51, t52, -⟩ := hR.2.2.2.2.1
  have h4 := hR.2.2.2.1
  obtain ⟨C, N, hC6, hN6, c6, m4, c5, m3, hcase⟩ := hR.isle
  have hI : jm_ia 200 = true := by decide
  have hq1 := k_X3_present (d := 10) (m := m)
  have hq2 := q_heldAll (d := 11) (m := m) (a := 200) hI c6 hN6
  have hq3 := q_allHeld (d := 11) (m := m) m4 hN6
  have hy : m 200 3 = m 221 5 ∧ m 200 7 = m 221 6 ∧ sumL (m (200 + 6)) N 0 (nI 0) = sumL (fun b => m 221 (38 + b)) N 0 (nI 0) := by
    rcases hcase with ⟨q0, q1, q2⟩ | ⟨q0, q2, g⟩
    · subst q0
      rcases h4 with ⟨z0, z1, z2, z3, z4, z5, z6, z7, z8, -⟩ | ⟨z0, -⟩
      · exact ⟨by rw [z1, z7], by rw [z4, z8], rfl⟩
      · rw [q2] at z0; exact absurd z0.symm bv1
    · obtain ⟨o, hv, hr⟩ := g
      exact ⟨hr.1.2.2.2.1, hr.1.2.2.2.2.2.2.2, sumL_congr (fun j h1 h2 => (hr.2.2 j (by omega)).2.2.2.2)⟩
  obtain ⟨y1, y2, y3⟩ := hy
  rw [y3] at hq2
  refine ⟨.int (if w = nI 0 then sumL (prB (m 11)) 8 0 (nI 0) else if w = nI 1 then nI C else if w = nI 2 then nI N else if w = nI 3 then m 221 5 else if w = nI 4 then m 221 6 else if w = nI 5 then sumL (fun b => m 221 (38 + b)) N 0 (nI 0) else if w = nI 6 then nI k5 else if w = nI 7 then nI k3 else -1000001), m, m, ?_, ?_, AG.refl⟩
  · show jm_R 12 md_X6_count 0 [.ref 0, .int w] [] _ = _
    simp only [e_X6_count_0, e_X6_count_1, e_X6_count_48, e_X6_count_49, e_X6_count_52, e_X6_count_55, e_X6_count_56, e_X6_count_57, e_X6_count_60, e_X6_count_63, e_X6_count_64, e_X6_count_65, e_X6_count_68, e_X6_count_71, e_X6_count_72, e_X6_count_73, e_X6_count_76, e_X6_count_79, e_X6_count_80, e_X6_count_81, e_X6_count_84, e_X6_count_87, e_X6_count_88, e_X6_count_89, e_X6_count_92, e_X6_count_95, e_X6_count_96, e_X6_count_97, e_X6_count_100, e_X6_count_103, e_X6_count_104, e_X6_count_105, e_X6_count_108, e_X6_count_111, e_X6_count_112, e_X6_count_114, hI, hq1, hq2, jm_bd_v, c5, c6, y1, y2, t51, t31]
    by_cases c0 : w = nI 0
    · simp only [if_pos c0]
    · by_cases c1 : w = nI 1
      · simp only [if_neg c0, if_pos c1]
      · by_cases c2 : w = nI 2
        · simp only [if_neg c0, if_neg c1, if_pos c2]
        · by_cases c3 : w = nI 3
          · simp only [if_neg c0, if_neg c1, if_neg c2, if_pos c3]
          · by_cases c4 : w = nI 4
            · simp only [if_neg c0, if_neg c1, if_neg c2, if_neg c3, if_pos c4]
            · by_cases c5 : w = nI 5
              · simp only [if_neg c0, if_neg c1, if_neg c2, if_neg c3, if_neg c4, if_pos c5]
              · by_cases c6 : w = nI 6
                · simp only [if_neg c0, if_neg c1, if_neg c2, if_neg c3, if_neg c4, if_neg c5, if_pos c6]
                · by_cases c7 : w = nI 7
                  · simp only [if_neg c0, if_neg c1, if_neg c2, if_neg c3, if_neg c4, if_neg c5, if_neg c6, if_pos c7]
                  · simp only [if_neg c0, if_neg c1, if_neg c2, if_neg c3, if_neg c4, if_neg c5, if_neg c6, if_neg c7]
  · show jm_R 12 md_X7_count 0 [.ref 217, .int w, .null, .null] [] _ = _
    have hlp := lp_X7_count (w := w) hR1 8 0 (nI 0) rfl
    simp only [e_X7_count_0, e_X7_count_1, e_X7_count_2, e_X7_count_3, e_X7_count_5, e_X7_count_7, e_X7_count_10, e_X7_count_11, e_X7_count_12, e_X7_count_15, e_X7_count_16, e_X7_count_17, e_X7_count_20, e_X7_count_21, e_X7_count_24, e_X7_count_25, e_X7_count_26, e_X7_count_27, e_X7_count_30, e_X7_count_33, e_X7_count_34, e_X7_count_80, e_X7_count_81, e_X7_count_82, e_X7_count_83, e_X7_count_86, e_X7_count_87, e_X7_count_88, e_X7_count_89, e_X7_count_90, e_X7_count_93, e_X7_count_94, e_X7_count_95, e_X7_count_96, e_X7_count_97, e_X7_count_100, e_X7_count_101, e_X7_count_102, e_X7_count_103, e_X7_count_104, e_X7_count_107, e_X7_count_109, e_X7_count_110, e_X7_count_111, e_X7_count_112, e_X7_count_115, e_X7_count_116, e_X7_count_117, e_X7_count_120, e_X7_count_121, e_X7_count_122, e_X7_count_125, e_X7_count_126, e_X7_count_128, hlp]
    rw [e_X7_count_4]
    simp only [e_X7_count_0, e_X7_count_1, e_X7_count_2, e_X7_count_3, e_X7_count_5, e_X7_count_7, e_X7_count_10, e_X7_count_11, e_X7_count_12, e_X7_count_15, e_X7_count_16, e_X7_count_17, e_X7_count_20, e_X7_count_21, e_X7_count_24, e_X7_count_25, e_X7_count_26, e_X7_count_27, e_X7_count_30, e_X7_count_33, e_X7_count_34, e_X7_count_80, e_X7_count_81, e_X7_count_82, e_X7_count_83, e_X7_count_86, e_X7_count_87, e_X7_count_88, e_X7_count_89, e_X7_count_90, e_X7_count_93, e_X7_count_94, e_X7_count_95, e_X7_count_96, e_X7_count_97, e_X7_count_100, e_X7_count_101, e_X7_count_102, e_X7_count_103, e_X7_count_104, e_X7_count_107, e_X7_count_109, e_X7_count_110, e_X7_count_111, e_X7_count_112, e_X7_count_115, e_X7_count_116, e_X7_count_117, e_X7_count_120, e_X7_count_121, e_X7_count_122, e_X7_count_125, e_X7_count_126, e_X7_count_128, nI_le (Nat.le_refl 8) (show 8 < 2 ^ 31 by decide), if_true, hq3, jm_bd_v, m3, m4, t52, t32, show (3 : Nat) < 44 by decide, show (4 : Nat) < 44 by decide, show (5 : Nat) < 44 by decide, show (6 : Nat) < 44 by decide]
    by_cases c0 : w = nI 0
    · simp only [if_pos c0]
    · by_cases c1 : w = nI 1
      · simp only [if_neg c0, if_pos c1]
      · by_cases c2 : w = nI 2
        · simp only [if_neg c0, if_neg c1, if_pos c2]
        · by_cases c3 : w = nI 3
          · simp only [if_neg c0, if_neg c1, if_neg c2, if_pos c3]
          · by_cases c4 : w = nI 4
            · simp only [if_neg c0, if_neg c1, if_neg c2, if_neg c3, if_pos c4]
            · by_cases c5 : w = nI 5
              · simp only [if_neg c0, if_neg c1, if_neg c2, if_neg c3, if_neg c4, if_pos c5]
              · by_cases c6 : w = nI 6
                · simp only [if_neg c0, if_neg c1, if_neg c2, if_neg c3, if_neg c4, if_neg c5, if_pos c6]
                · by_cases c7 : w = nI 7
                  · simp only [if_neg c0, if_neg c1, if_neg c2, if_neg c3, if_neg c4, if_neg c5, if_neg c6, if_pos c7]
                  · simp only [if_neg c0, if_neg c1, if_neg c2, if_neg c3, if_neg c4, if_neg c5, if_neg c6, if_neg c7]
