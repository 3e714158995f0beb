/-! as -/
def nxK : Nat → Option Nat
  | 0 => none
  | 1 => some 0
  | 2 => some 1
  | 3 => some 1
  | 4 => some 0
  | _ => some 4
def isaL (q : Nat) : Nat → Option Nat → Bool
  | 0, _ => false
  | _ + 1, none => false
  | f + 1, some k => if k = q then true else isaL q f (nxK k)
theorem nxK_lt : ∀ k, k < 6 → ∀ b, nxK k = some b → b < 6 := by
  intro k hk b h
  rcases (by omega : k = 0 ∨ k = 1 ∨ k = 2 ∨ k = 3 ∨ k = 4 ∨ k = 5) with rfl | rfl | rfl | rfl | rfl | rfl <;> (simp [nxK] at h <;> omega)
theorem sv_nx : ∀ k, k < 6 → jm_sv 0 k = ovI (nxK k) := by decide +kernel
theorem lp_X1_isA {d q : Nat} {l0 : Int32} {m : Nat → Nat → Int32} (hq : q < 6) : ∀ (f c : Nat) (o : Option Nat), (∀ b, o = some b → b < 6) → c + f = 6 → jm_R d md_X1_isA 4 [.int l0, .int (nI q), .int (ovI o), .int (nI c)] [] (jm_mk m) = some (some (.int (if isaL q f o = true then nI 1 else nI 0)), jm_mk m) := by
  intro f
  induction f with
  | zero =>
    intro c o ho h
    have h1 : nI 6 ≤ nI c := nI_le (by omega) (by omega)
    rw [e_X1_isA_4]
    simp only [e_X1_isA_0, e_X1_isA_1, e_X1_isA_2, e_X1_isA_3, e_X1_isA_5, e_X1_isA_8, e_X1_isA_9, e_X1_isA_12, e_X1_isA_13, e_X1_isA_16, e_X1_isA_17, e_X1_isA_20, e_X1_isA_21, e_X1_isA_24, e_X1_isA_25, e_X1_isA_26, e_X1_isA_29, e_X1_isA_30, e_X1_isA_31, e_X1_isA_34, e_X1_isA_35, e_X1_isA_36, e_X1_isA_37, e_X1_isA_40, e_X1_isA_43, e_X1_isA_44, h1, if_true, true_or, or_true]
    cases o <;> rfl
  | succ f ih =>
    intro c o ho h
    have h1 : ¬ nI 6 ≤ nI c := nI_ge (by omega) (by omega)
    rw [e_X1_isA_4]
    cases o with
    | none =>
      simp only [e_X1_isA_0, e_X1_isA_1, e_X1_isA_2, e_X1_isA_3, e_X1_isA_5, e_X1_isA_8, e_X1_isA_9, e_X1_isA_12, e_X1_isA_13, e_X1_isA_16, e_X1_isA_17, e_X1_isA_20, e_X1_isA_21, e_X1_isA_24, e_X1_isA_25, e_X1_isA_26, e_X1_isA_29, e_X1_isA_30, e_X1_isA_31, e_X1_isA_34, e_X1_isA_35, e_X1_isA_36, e_X1_isA_37, e_X1_isA_40, e_X1_isA_43, e_X1_isA_44, ovI, h1, if_false, m1_lt, if_true, true_or, or_true]
      rfl
    | some k =>
      have hk := ho k rfl
      have h2 : ¬ nI k < nI 0 := nI_nlt0 (by omega)
      have h3 : ¬ nI 6 ≤ nI k := nI_ge (by omega) (by omega)
      show _ = some (some (Value.int (if (if k = q then true else isaL q f (nxK k)) = true then nI 1 else nI 0)), _)
      by_cases z : k = q
      · subst z
        simp only [e_X1_isA_0, e_X1_isA_1, e_X1_isA_2, e_X1_isA_3, e_X1_isA_5, e_X1_isA_8, e_X1_isA_9, e_X1_isA_12, e_X1_isA_13, e_X1_isA_16, e_X1_isA_17, e_X1_isA_20, e_X1_isA_21, e_X1_isA_24, e_X1_isA_25, e_X1_isA_26, e_X1_isA_29, e_X1_isA_30, e_X1_isA_31, e_X1_isA_34, e_X1_isA_35, e_X1_isA_36, e_X1_isA_37, e_X1_isA_40, e_X1_isA_43, e_X1_isA_44, ovI, h1, if_false, h2, h3, not_true_eq_false, true_or, or_true, if_true]
      · have h4 : ¬ nI k = nI q := fun e => z ((nI_eq (by omega) (by omega)).mp e)
        have e1 : ovI (some k) = nI k := rfl
        rw [e1]
        simp only [e_X1_isA_0, e_X1_isA_1, e_X1_isA_2, e_X1_isA_3, e_X1_isA_5, e_X1_isA_8, e_X1_isA_9, e_X1_isA_12, e_X1_isA_13, e_X1_isA_16, e_X1_isA_17, e_X1_isA_20, e_X1_isA_21, e_X1_isA_24, e_X1_isA_25, e_X1_isA_26, e_X1_isA_29, e_X1_isA_30, e_X1_isA_31, e_X1_isA_34, e_X1_isA_35, e_X1_isA_36, e_X1_isA_37, e_X1_isA_40, e_X1_isA_43, e_X1_isA_44, h1, if_false, h2, h3, h4, not_false_eq_true, if_true, hk, sv_nx k hk, nI_add, ih (c + 1) (nxK k) (nxK_lt k hk) (by omega), z]
theorem k_X1_isA {d k q : Nat} {m : Nat → Nat → Int32} (hk : k < 6) (hq : q < 6) : jm_K d md_X1_isA [.int (nI k), .int (nI q)] (jm_mk m) = some (some (.int (if isaL q 6 (some k) = true then nI 1 else nI 0)), jm_mk m) := by
  show jm_R d md_X1_isA 0 [.int (nI k), .int (nI q), .null, .null] [] _ = _
  simp only [e_X1_isA_0, e_X1_isA_1, e_X1_isA_2, e_X1_isA_3, e_X1_isA_5, e_X1_isA_8, e_X1_isA_9, e_X1_isA_12, e_X1_isA_13, e_X1_isA_16, e_X1_isA_17, e_X1_isA_20, e_X1_isA_21, e_X1_isA_24, e_X1_isA_25, e_X1_isA_26, e_X1_isA_29, e_X1_isA_30, e_X1_isA_31, e_X1_isA_34, e_X1_isA_35, e_X1_isA_36, e_X1_isA_37, e_X1_isA_40, e_X1_isA_43, e_X1_isA_44]
  exact lp_X1_isA hq 6 0 (some k) (fun b hb => by cases hb; exact hk) rfl
def isKF (k q : Int32) : Int32 := if q = nI 0 then nI 1 else if k = q then nI 1 else if q = nI 1 ∧ k < nI 4 then nI 1 else if q = nI 4 ∧ k = nI 5 then nI 1 else nI 0
theorem k_X7_isKind {d : Nat} {k q : Int32} {M : jm_M} : jm_K d md_X7_isKind [.int k, .int q] M = some (some (.int (isKF k q)), M) := by
  show jm_R d md_X7_isKind 0 [.int k, .int q] [] _ = _
  simp only [e_X7_isKind_0, e_X7_isKind_1, e_X7_isKind_4, e_X7_isKind_5, e_X7_isKind_6, e_X7_isKind_9, e_X7_isKind_10, e_X7_isKind_11, e_X7_isKind_14, e_X7_isKind_15, e_X7_isKind_16, e_X7_isKind_19, e_X7_isKind_20, e_X7_isKind_21, e_X7_isKind_24, e_X7_isKind_25, e_X7_isKind_26, e_X7_isKind_29, e_X7_isKind_30, e_X7_isKind_33, e_X7_isKind_34, true_or, or_true, isKF]
  by_cases c0 : q = nI 0
  · simp only [if_pos c0]
  · by_cases c1 : k = q
    · simp only [if_neg c0, if_pos c1]
    · by_cases c2 : q = nI 1
      · subst c2
        have c4 : ¬ nI 1 = nI 4 := by decide
        by_cases c3 : k < nI 4
        · simp only [c0, c1, c3, not_true_eq_false, if_false, if_true, and_self]
        · simp only [c0, c1, c3, c4, not_true_eq_false, not_false_eq_true, if_false, if_true, and_false, false_and]
      · by_cases c4 : q = nI 4
        · subst c4
          by_cases c5 : k = nI 5
          · subst c5
            simp only [c0, c1, c2, not_true_eq_false, not_false_eq_true, if_false, if_true, false_and, and_self]
          · simp only [c0, c1, c2, c5, not_true_eq_false, not_false_eq_true, if_false, if_true, false_and, and_false]
        · simp only [if_neg c0, if_neg c1, c2, c4, not_false_eq_true, if_false, if_true, false_and]
set_option maxRecDepth 100000 in
theorem kind_fin : ∀ k, k < 6 → 1 ≤ k → ∀ q, q < 6 → isKF (nI k) (nI q) = if isaL q 6 (some k) = true then nI 1 else nI 0 := by decide +kernel
theorem api_as (b k : Int32) : Api md_X6_as md_X7_as [.int b, .int k] := by
  intro m hR
  obtain ⟨C, N, hC6, hN6, c6, m4, c5, m3, hcase⟩ := hR.isle
  have hI : jm_ia 200 = true := by decide
  by_cases hb : ¬ b < nI 0 ∧ ¬ nI N ≤ b
  · by_cases hk : ¬ k < nI 0 ∧ ¬ nI 5 < k
    · obtain ⟨j, hj, rfl⟩ := ix_of hb (by omega)
      obtain ⟨q, -, hq, rfl⟩ := rg_of hk (by omega) (by omega)
      rcases hcase with ⟨z, -⟩ | ⟨-, q2, g⟩
      · omega
      have hj6 : j < 6 := by omega
      have h14 : 14 + j < 44 := by omega
      obtain ⟨o, hv, hr⟩ := g
      obtain ⟨s, s1, s2, s3⟩ := (hv.2.2.2.2.2.2 j hj).1
      have s4 : m 202 j = nI s := by rw [show m 202 j = m 221 (14 + j) from (hr.2.2 j hj).1]; exact s3
      have ki := k_X1_isA (d := 11) (m := m) (show s < 6 by omega) (show q < 6 by omega)
      have kf := kind_fin s (by omega) s1 q (by omega)
      by_cases hi : isaL q 6 (some s) = true
      · rw [if_pos hi] at ki kf
        refine Api.fnd hR (nI 0) (r := .int (nI j)) ?_ ?_
        · show jm_R 12 md_X6_as 0 [.ref 0, .int (nI j), .int (nI q)] [] _ = _
          simp only [e_X6_as_0, e_X6_as_1, e_X6_as_4, e_X6_as_5, e_X6_as_8, e_X6_as_11, e_X6_as_12, e_X6_as_13, e_X6_as_14, e_X6_as_17, e_X6_as_20, e_X6_as_22, e_X6_as_23, e_X6_as_24, e_X6_as_27, e_X6_as_30, e_X6_as_31, e_X6_as_32, e_X6_as_33, e_X6_as_36, e_X6_as_39, e_X6_as_40, e_X6_as_41, e_X6_as_44, e_X6_as_45, e_X6_as_46, e_X6_as_47, e_X6_as_50, k_X2_hasBoat hI, k_X2_stands hI, k_X2_hasCell hI, c6, c5, k_X6_within, jm_bd_v, jm_bd_0, bv1, if_false, if_true, not_false_eq_true, not_true_eq_false, if_pos hb, if_pos hk, hI, hj6, s4, ki, k_X6_fine]
        · show jm_R 12 md_X7_as 0 [.ref 217, .int (nI j), .int (nI q)] [] _ = _
          have m4' : jm_up m 0 7 (nI 0) 221 4 = nI N := by rw [jupr (by decide)]; exact m4
          simp only [e_X7_as_0, e_X7_as_1, e_X7_as_2, e_X7_as_5, e_X7_as_8, e_X7_as_9, e_X7_as_10, e_X7_as_11, e_X7_as_14, e_X7_as_17, e_X7_as_20, e_X7_as_22, e_X7_as_23, e_X7_as_24, e_X7_as_27, e_X7_as_29, e_X7_as_30, e_X7_as_31, e_X7_as_32, e_X7_as_33, e_X7_as_36, e_X7_as_39, e_X7_as_40, e_X7_as_41, e_X7_as_44, e_X7_as_47, e_X7_as_48, e_X7_as_49, e_X7_as_52, k_X7_isBoat m4' hN6, in_0_5, jm_bd_v, jm_bd_0, bv1, if_false, if_true, not_false_eq_true, not_true_eq_false, if_pos hb, if_pos hk, nI_add, h14, jupr (show (221 : Nat) ≠ 0 by decide), s3, k_X7_isKind, kf, k_X7_well]
      · rw [if_neg hi] at ki kf
        refine Api.fnd hR (nI 3) (r := .int (-1000010 - nI 3)) ?_ ?_
        · show jm_R 12 md_X6_as 0 [.ref 0, .int (nI j), .int (nI q)] [] _ = _
          simp only [e_X6_as_0, e_X6_as_1, e_X6_as_4, e_X6_as_5, e_X6_as_8, e_X6_as_11, e_X6_as_12, e_X6_as_13, e_X6_as_14, e_X6_as_17, e_X6_as_20, e_X6_as_22, e_X6_as_23, e_X6_as_24, e_X6_as_27, e_X6_as_30, e_X6_as_31, e_X6_as_32, e_X6_as_33, e_X6_as_36, e_X6_as_39, e_X6_as_40, e_X6_as_41, e_X6_as_44, e_X6_as_45, e_X6_as_46, e_X6_as_47, e_X6_as_50, k_X2_hasBoat hI, k_X2_stands hI, k_X2_hasCell hI, c6, c5, k_X6_within, jm_bd_v, jm_bd_0, bv1, if_false, if_true, not_false_eq_true, not_true_eq_false, if_pos hb, if_pos hk, hI, hj6, s4, ki, k_X6_finding]
        · show jm_R 12 md_X7_as 0 [.ref 217, .int (nI j), .int (nI q)] [] _ = _
          have m4' : jm_up m 0 7 (nI 3) 221 4 = nI N := by rw [jupr (by decide)]; exact m4
          simp only [e_X7_as_0, e_X7_as_1, e_X7_as_2, e_X7_as_5, e_X7_as_8, e_X7_as_9, e_X7_as_10, e_X7_as_11, e_X7_as_14, e_X7_as_17, e_X7_as_20, e_X7_as_22, e_X7_as_23, e_X7_as_24, e_X7_as_27, e_X7_as_29, e_X7_as_30, e_X7_as_31, e_X7_as_32, e_X7_as_33, e_X7_as_36, e_X7_as_39, e_X7_as_40, e_X7_as_41, e_X7_as_44, e_X7_as_47, e_X7_as_48, e_X7_as_49, e_X7_as_52, k_X7_isBoat m4' hN6, in_0_5, jm_bd_v, jm_bd_0, bv1, if_false, if_true, not_false_eq_true, not_true_eq_false, if_pos hb, if_pos hk, nI_add, h14, jupr (show (221 : Nat) ≠ 0 by decide), s3, k_X7_isKind, kf, k_X7_find]
    · refine Api.bad hR (r := .int (-1000001)) ?_ ?_
      · show jm_R 12 md_X6_as 0 [.ref 0, .int b, .int k] [] _ = _
        simp only [e_X6_as_0, e_X6_as_1, e_X6_as_4, e_X6_as_5, e_X6_as_8, e_X6_as_11, e_X6_as_12, e_X6_as_13, e_X6_as_14, e_X6_as_17, e_X6_as_20, e_X6_as_22, e_X6_as_23, e_X6_as_24, e_X6_as_27, e_X6_as_30, e_X6_as_31, e_X6_as_32, e_X6_as_33, e_X6_as_36, e_X6_as_39, e_X6_as_40, e_X6_as_41, e_X6_as_44, e_X6_as_45, e_X6_as_46, e_X6_as_47, e_X6_as_50, k_X2_hasBoat hI, k_X2_stands hI, k_X2_hasCell hI, c6, c5, k_X6_within, jm_bd_v, jm_bd_0, bv1, if_false, if_true, not_false_eq_true, not_true_eq_false, if_pos hb, if_neg hk]
      · show jm_R 12 md_X7_as 0 [.ref 217, .int b, .int k] [] _ = _
        simp only [e_X7_as_0, e_X7_as_1, e_X7_as_2, e_X7_as_5, e_X7_as_8, e_X7_as_9, e_X7_as_10, e_X7_as_11, e_X7_as_14, e_X7_as_17, e_X7_as_20, e_X7_as_22, e_X7_as_23, e_X7_as_24, e_X7_as_27, e_X7_as_29, e_X7_as_30, e_X7_as_31, e_X7_as_32, e_X7_as_33, e_X7_as_36, e_X7_as_39, e_X7_as_40, e_X7_as_41, e_X7_as_44, e_X7_as_47, e_X7_as_48, e_X7_as_49, e_X7_as_52, k_X7_isBoat m4 hN6, in_0_5, jm_bd_v, jm_bd_0, bv1, if_false, if_true, not_false_eq_true, not_true_eq_false, if_pos hb, if_neg hk]
  · refine Api.bad hR (r := .int (-1000001)) ?_ ?_
    · show jm_R 12 md_X6_as 0 [.ref 0, .int b, .int k] [] _ = _
      simp only [e_X6_as_0, e_X6_as_1, e_X6_as_4, e_X6_as_5, e_X6_as_8, e_X6_as_11, e_X6_as_12, e_X6_as_13, e_X6_as_14, e_X6_as_17, e_X6_as_20, e_X6_as_22, e_X6_as_23, e_X6_as_24, e_X6_as_27, e_X6_as_30, e_X6_as_31, e_X6_as_32, e_X6_as_33, e_X6_as_36, e_X6_as_39, e_X6_as_40, e_X6_as_41, e_X6_as_44, e_X6_as_45, e_X6_as_46, e_X6_as_47, e_X6_as_50, k_X2_hasBoat hI, k_X2_stands hI, k_X2_hasCell hI, c6, c5, k_X6_within, jm_bd_v, jm_bd_0, bv1, if_false, if_true, not_false_eq_true, not_true_eq_false, if_neg hb]
    · show jm_R 12 md_X7_as 0 [.ref 217, .int b, .int k] [] _ = _
      simp only [e_X7_as_0, e_X7_as_1, e_X7_as_2, e_X7_as_5, e_X7_as_8, e_X7_as_9, e_X7_as_10, e_X7_as_11, e_X7_as_14, e_X7_as_17, e_X7_as_20, e_X7_as_22, e_X7_as_23, e_X7_as_24, e_X7_as_27, e_X7_as_29, e_X7_as_30, e_X7_as_31, e_X7_as_32, e_X7_as_33, e_X7_as_36, e_X7_as_39, e_X7_as_40, e_X7_as_41, e_X7_as_44, e_X7_as_47, e_X7_as_48, e_X7_as_49, e_X7_as_52, k_X7_isBoat m4 hN6, jm_bd_v, jm_bd_0, bv1, if_false, if_true, not_false_eq_true, not_true_eq_false, if_neg hb]
/-! what a row tells -/
def gtM (f : Nat → Int32) : Nat → Nat → (Nat → Int32) → Bool
  | 0, _, _ => true
  | k + 1, c, y => if ohS y 7 = f c then gtM f k (c + 1) (ohS y) else false
theorem gtM_s {f : Nat → Int32} {k c : Nat} {y : Nat → Int32} : gtM f (k + 1) c y = if ohS y 7 = f c then gtM f k (c + 1) (ohS y) else false := rfl
theorem gtM_x {C N : Nat} {f f' : Nat → Int32} : ∀ (k c : Nat) {x : Nat → Nat → Int32} {y y' : Nat → Int32}, GN C N x y → GN C N x y' → (∀ t, c ≤ t → t < c + k → f t = f' t) → gtM f k c y = gtM f' k c y'
  | 0, c, x, y, y', _, _, _ => rfl
  | k + 1, c, x, y, y', g, g', h => by
    rw [gtM_s, gtM_s, ← g.step.owner.1, ← g'.step.owner.1, h c (Nat.le_refl _) (by omega), gtM_x k (c + 1) g.step g'.step (fun t h1 h2 => h t (by omega) (by omega))]
theorem lp_X4_goes {d C N r i n : Nat} {m : Nat → Nat → Int32} (hr : r < 8) (hi : i + n ≤ 40) : ∀ (k c : Nat) (x : Nat → Nat → Int32) (y : Nat → Int32), GN C N x y → c + k = n → ∃ x', jm_R (d + 3) md_X4_goesAsTold 3 [.ref 207, .ref (3 + r), .int (nI i), .int (nI n), .int (nI (i + c))] [] (jm_mk (wrI m 208 x)) = some (some (.int (if gtM (fun t => m (3 + r) (i + t)) k c y = true then nI 1 else nI 0)), jm_mk (wrI m 208 x')) := by
  have ha : jm_ia 208 = true := by decide
  intro k
  induction k with
  | zero =>
    intro c x y g h
    have h1 : nI (i + n) ≤ nI (i + c) := nI_le (by omega) (by omega)
    refine ⟨x, ?_⟩
    rw [e_X4_goesAsTold_3]
    simp only [e_X4_goesAsTold_0, e_X4_goesAsTold_1, e_X4_goesAsTold_5, e_X4_goesAsTold_6, e_X4_goesAsTold_7, e_X4_goesAsTold_8, e_X4_goesAsTold_11, e_X4_goesAsTold_13, e_X4_goesAsTold_15, e_X4_goesAsTold_18, e_X4_goesAsTold_19, e_X4_goesAsTold_22, e_X4_goesAsTold_25, e_X4_goesAsTold_26, e_X4_goesAsTold_29, e_X4_goesAsTold_32, e_X4_goesAsTold_33, e_X4_goesAsTold_36, e_X4_goesAsTold_39, e_X4_goesAsTold_40, e_X4_goesAsTold_41, e_X4_goesAsTold_44, e_X4_goesAsTold_47, e_X4_goesAsTold_48, nI_add, h1, if_true, true_or, or_true]
    rfl
  | succ k ih =>
    intro c x y g h
    have h1 : ¬ nI (i + n) ≤ nI (i + c) := nI_ge (by omega) (by omega)
    have h2 : ¬ nI 40 ≤ nI (i + c) := nI_ge (by omega) (by omega)
    have h3 := p_X2_pass (d := d) (m := m) ha g.gx
    have h4 := g.step.owner.1
    have e14 := fun (S : List Value) => e_X4_goesAsTold_14 (d := d + 3) (l0 := .ref 207) (l1 := .ref (3 + r)) (l2 := .int (nI i)) (l3 := .int (nI n)) (l4 := .int (nI (i + c))) (S := S) (m := wrI m 208 x) (kd3 hr) (ln3 hr)
    have e35 := fun (S : List Value) => e_X4_goesAsTold_35 (d := d + 3) (l0 := .ref 207) (l1 := .ref (3 + r)) (l2 := .int (nI i)) (l3 := .int (nI n)) (l4 := .int (nI (i + c))) (S := S) (m := wrI m 208 (pasS x)) (j := i + c) (kd3 hr) (ln3 hr) (by omega) (by decide)
    have er : wrI m 208 (pasS x) (3 + r) (i + c) = m (3 + r) (i + c) := by rw [wrI_o (by omega)]
    rw [gtM_s]
    by_cases q : ohS y 7 = m (3 + r) (i + c)
    · obtain ⟨x2, e2⟩ := ih (c + 1) (pasS x) (ohS y) g.step (by omega)
      refine ⟨x2, ?_⟩
      rw [e_X4_goesAsTold_3]
      simp only [e_X4_goesAsTold_0, e_X4_goesAsTold_1, e_X4_goesAsTold_5, e_X4_goesAsTold_6, e_X4_goesAsTold_7, e_X4_goesAsTold_8, e_X4_goesAsTold_11, e_X4_goesAsTold_13, e_X4_goesAsTold_15, e_X4_goesAsTold_18, e_X4_goesAsTold_19, e_X4_goesAsTold_22, e_X4_goesAsTold_25, e_X4_goesAsTold_26, e_X4_goesAsTold_29, e_X4_goesAsTold_32, e_X4_goesAsTold_33, e_X4_goesAsTold_36, e_X4_goesAsTold_39, e_X4_goesAsTold_40, e_X4_goesAsTold_41, e_X4_goesAsTold_44, e_X4_goesAsTold_47, e_X4_goesAsTold_48, nI_add, h1, if_false, e14, h2, h3, jm_bd_0, ha, wrI_0, h4, e35, er, q, if_true]
      exact e2
    · refine ⟨pasS x, ?_⟩
      rw [e_X4_goesAsTold_3]
      simp only [e_X4_goesAsTold_0, e_X4_goesAsTold_1, e_X4_goesAsTold_5, e_X4_goesAsTold_6, e_X4_goesAsTold_7, e_X4_goesAsTold_8, e_X4_goesAsTold_11, e_X4_goesAsTold_13, e_X4_goesAsTold_15, e_X4_goesAsTold_18, e_X4_goesAsTold_19, e_X4_goesAsTold_22, e_X4_goesAsTold_25, e_X4_goesAsTold_26, e_X4_goesAsTold_29, e_X4_goesAsTold_32, e_X4_goesAsTold_33, e_X4_goesAsTold_36, e_X4_goesAsTold_39, e_X4_goesAsTold_40, e_X4_goesAsTold_41, e_X4_goesAsTold_44, e_X4_goesAsTold_47, e_X4_goesAsTold_48, nI_add, h1, if_false, e14, h2, h3, jm_bd_0, ha, wrI_0, h4, e35, er, q, true_or, or_true, Bool.false_eq_true]
theorem k_X4_goes {d C N r i n : Nat} {m x : Nat → Nat → Int32} {y : Nat → Int32} (hr : r < 8) (hi : i + n ≤ 40) (g : GN C N x y) : ∃ x', jm_K (d + 3) md_X4_goesAsTold [.ref 207, .ref (3 + r), .int (nI i), .int (nI n)] (jm_mk (wrI m 208 x)) = some (some (.int (if gtM (fun t => m (3 + r) (i + t)) n 0 y = true then nI 1 else nI 0)), jm_mk (wrI m 208 x')) := by
  obtain ⟨x', e⟩ := lp_X4_goes (d := d) (m := m) hr hi n 0 x y g (by omega)
  refine ⟨x', ?_⟩
  show jm_R (d + 3) md_X4_goesAsTold 0 [.ref 207, .ref (3 + r), .int (nI i), .int (nI n), .null] [] _ = _
  simp only [e_X4_goesAsTold_0, e_X4_goesAsTold_1, e_X4_goesAsTold_5, e_X4_goesAsTold_6, e_X4_goesAsTold_7, e_X4_goesAsTold_8, e_X4_goesAsTold_11, e_X4_goesAsTold_13, e_X4_goesAsTold_15, e_X4_goesAsTold_18, e_X4_goesAsTold_19, e_X4_goesAsTold_22, e_X4_goesAsTold_25, e_X4_goesAsTold_26, e_X4_goesAsTold_29, e_X4_goesAsTold_32, e_X4_goesAsTold_33, e_X4_goesAsTold_36, e_X4_goesAsTold_39, e_X4_goesAsTold_40, e_X4_goesAsTold_41, e_X4_goesAsTold_44, e_X4_goesAsTold_47, e_X4_goesAsTold_48]
  exact e
theorem lp_X7_isSo {d C N A n : Nat} {m : Nat → Nat → Int32} {z : Nat → Int32} (hA : A + n ≤ 320) (hn : n ≤ 40) : ∀ (k c : Nat) (b : Bool) (x : Nat → Nat → Int32) (y : Nat → Int32), GN C N x y → c + k = n → ∃ y', jm_R (d + 4) md_X7_isSo 5 [.ref 217, .int (nI A), .int (nI n), .int (if b = true then nI 1 else nI 0), .int (nI c)] [] (jm_mk (wrA (wrA m 226 z) 221 y)) = some (some (.int (if (b && gtM (fun t => m 220 (A + t)) k c y) = true then nI 1 else nI 0)), jm_mk (wrA (wrA m 226 z) 221 (cp44 z y'))) := by
  intro k
  induction k with
  | zero =>
    intro c b x y g h
    have h1 : nI n ≤ nI c := nI_le (by omega) (by omega)
    refine ⟨y, ?_⟩
    rw [e_X7_isSo_5]
    simp only [e_X7_isSo_0, e_X7_isSo_1, e_X7_isSo_2, e_X7_isSo_3, e_X7_isSo_7, e_X7_isSo_8, e_X7_isSo_11, e_X7_isSo_12, e_X7_isSo_15, e_X7_isSo_16, e_X7_isSo_19, e_X7_isSo_20, e_X7_isSo_23, e_X7_isSo_24, e_X7_isSo_26, e_X7_isSo_27, e_X7_isSo_28, e_X7_isSo_29, e_X7_isSo_32, e_X7_isSo_34, e_X7_isSo_35, e_X7_isSo_38, e_X7_isSo_39, e_X7_isSo_42, e_X7_isSo_43, e_X7_isSo_44, e_X7_isSo_47, e_X7_isSo_50, e_X7_isSo_51, e_X7_isSo_54, e_X7_isSo_55, h1, if_true, k_X7_takeBack, jm_bd_0, b01, gtM, Bool.and_true]
  | succ k ih =>
    intro c b x y g h
    have h1 : ¬ nI n ≤ nI c := nI_ge (by omega) (by omega)
    have h2 := p_X7_oneHour (d := d) (m := wrA m 226 z) g.gx.y
    have h3 : A + c < 320 := by omega
    have e220 : ∀ y, wrA (wrA m 226 z) 221 y 220 = m 220 := fun y => by rw [wrA_ne (by decide), wrA_ne (by decide)]
    rw [gtM_s]
    cases b with
    | false =>
      obtain ⟨y', e⟩ := ih (c + 1) false (pasS x) (ohS y) g.step (by omega)
      refine ⟨y', ?_⟩
      rw [e_X7_isSo_5]
      simp only [Bool.false_eq_true, if_false, Bool.false_and] at e ⊢
      simp only [e_X7_isSo_0, e_X7_isSo_1, e_X7_isSo_2, e_X7_isSo_3, e_X7_isSo_7, e_X7_isSo_8, e_X7_isSo_11, e_X7_isSo_12, e_X7_isSo_15, e_X7_isSo_16, e_X7_isSo_19, e_X7_isSo_20, e_X7_isSo_23, e_X7_isSo_24, e_X7_isSo_26, e_X7_isSo_27, e_X7_isSo_28, e_X7_isSo_29, e_X7_isSo_32, e_X7_isSo_34, e_X7_isSo_35, e_X7_isSo_38, e_X7_isSo_39, e_X7_isSo_42, e_X7_isSo_43, e_X7_isSo_44, e_X7_isSo_47, e_X7_isSo_50, e_X7_isSo_51, e_X7_isSo_54, e_X7_isSo_55, h1, if_false, h2, jm_bd_0, if_true, nI_add]
      exact e
    | true =>
      by_cases q : ohS y 7 = m 220 (A + c)
      · obtain ⟨y', e⟩ := ih (c + 1) true (pasS x) (ohS y) g.step (by omega)
        refine ⟨y', ?_⟩
        rw [e_X7_isSo_5]
        simp only [if_true, Bool.true_and] at e ⊢
        simp only [e_X7_isSo_0, e_X7_isSo_1, e_X7_isSo_2, e_X7_isSo_3, e_X7_isSo_7, e_X7_isSo_8, e_X7_isSo_11, e_X7_isSo_12, e_X7_isSo_15, e_X7_isSo_16, e_X7_isSo_19, e_X7_isSo_20, e_X7_isSo_23, e_X7_isSo_24, e_X7_isSo_26, e_X7_isSo_27, e_X7_isSo_28, e_X7_isSo_29, e_X7_isSo_32, e_X7_isSo_34, e_X7_isSo_35, e_X7_isSo_38, e_X7_isSo_39, e_X7_isSo_42, e_X7_isSo_43, e_X7_isSo_44, e_X7_isSo_47, e_X7_isSo_50, e_X7_isSo_51, e_X7_isSo_54, e_X7_isSo_55, h1, if_false, h2, jm_bd_0, bv1, nI_add, h3, e220, show (7 : Nat) < 44 by decide, wrA_at, q, not_true_eq_false, if_true]
        exact e
      · obtain ⟨y', e⟩ := ih (c + 1) false (pasS x) (ohS y) g.step (by omega)
        have q' : ¬ m 220 (A + c) = ohS y 7 := fun h => q h.symm
        refine ⟨y', ?_⟩
        rw [e_X7_isSo_5]
        simp only [if_true, Bool.true_and, Bool.false_and, Bool.false_eq_true, if_false] at e ⊢
        simp only [e_X7_isSo_0, e_X7_isSo_1, e_X7_isSo_2, e_X7_isSo_3, e_X7_isSo_7, e_X7_isSo_8, e_X7_isSo_11, e_X7_isSo_12, e_X7_isSo_15, e_X7_isSo_16, e_X7_isSo_19, e_X7_isSo_20, e_X7_isSo_23, e_X7_isSo_24, e_X7_isSo_26, e_X7_isSo_27, e_X7_isSo_28, e_X7_isSo_29, e_X7_isSo_32, e_X7_isSo_34, e_X7_isSo_35, e_X7_isSo_38, e_X7_isSo_39, e_X7_isSo_42, e_X7_isSo_43, e_X7_isSo_44, e_X7_isSo_47, e_X7_isSo_50, e_X7_isSo_51, e_X7_isSo_54, e_X7_isSo_55, h1, if_false, h2, jm_bd_0, bv1, nI_add, h3, e220, show (7 : Nat) < 44 by decide, wrA_at, q, q', not_false_eq_true, if_true]
        exact e
theorem k_X7_isSo {d C N A n : Nat} {m x : Nat → Nat → Int32} {z y : Nat → Int32} (hA : A + n ≤ 320) (hn : n ≤ 40) (g : GN C N x y) : ∃ y', jm_K (d + 4) md_X7_isSo [.ref 217, .int (nI A), .int (nI n)] (jm_mk (wrA (wrA m 226 z) 221 y)) = some (some (.int (if gtM (fun t => m 220 (A + t)) n 0 y = true then nI 1 else nI 0)), jm_mk (wrA (wrA m 226 z) 221 (cp44 z y'))) := by
  obtain ⟨y', e⟩ := lp_X7_isSo (d := d) (m := m) (z := z) hA hn n 0 true x y g (by omega)
  refine ⟨y', ?_⟩
  show jm_R (d + 4) md_X7_isSo 0 [.ref 217, .int (nI A), .int (nI n), .null, .null] [] _ = _
  simp only [if_true, Bool.true_and] at e
  simp only [e_X7_isSo_0, e_X7_isSo_1, e_X7_isSo_2, e_X7_isSo_3, e_X7_isSo_7, e_X7_isSo_8, e_X7_isSo_11, e_X7_isSo_12, e_X7_isSo_15, e_X7_isSo_16, e_X7_isSo_19, e_X7_isSo_20, e_X7_isSo_23, e_X7_isSo_24, e_X7_isSo_26, e_X7_isSo_27, e_X7_isSo_28, e_X7_isSo_29, e_X7_isSo_32, e_X7_isSo_34, e_X7_isSo_35, e_X7_isSo_38, e_X7_isSo_39, e_X7_isSo_42, e_X7_isSo_43, e_X7_isSo_44, e_X7_isSo_47, e_X7_isSo_50, e_X7_isSo_51, e_X7_isSo_54, e_X7_isSo_55]
  exact e
