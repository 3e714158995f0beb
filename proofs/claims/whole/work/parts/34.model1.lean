/-! the reference's small methods -/
def wrA (m : Nat → Nat → Int32) (A : Nat) (f : Nat → Int32) : Nat → Nat → Int32 := fun a j => if a = A then f j else m a j
theorem wrA_at {m : Nat → Nat → Int32} {A j : Nat} {f : Nat → Int32} : wrA m A f A j = f j := if_pos rfl
theorem wrA_ne {m : Nat → Nat → Int32} {A a : Nat} {f : Nat → Int32} (h : a ≠ A) : wrA m A f a = m a := by
  funext j
  exact if_neg h
theorem wrA_up {m : Nat → Nat → Int32} {A j : Nat} {f : Nat → Int32} {v : Int32} : jm_up (wrA m A f) A j v = wrA m A (upd f j v) := by
  funext a k
  unfold jm_up wrA upd
  by_cases q : a = A
  · subst q
    by_cases z : k = j <;> simp [z]
  · simp [q]
theorem wrA_self {m : Nat → Nat → Int32} {A : Nat} : wrA m A (m A) = m := by
  funext a j
  unfold wrA
  by_cases q : a = A
  · rw [if_pos q, q]
  · rw [if_neg q]
theorem lcmp_lt {x y : Int64} : (lg_cmp x y < nI 0) = (x < y) := propext (lg_cmp_lt x y)
theorem lcmp_gt {x y : Int64} : (nI 0 < lg_cmp x y) = (y < x) := propext (lg_cmp_gt x y)
theorem lcmp_ge {x y : Int64} : (nI 0 ≤ lg_cmp x y) = (y ≤ x) := propext (lg_cmp_ge x y)
theorem lcmp_le {x y : Int64} : (lg_cmp x y ≤ nI 0) = (x ≤ y) := propext (lg_cmp_le x y)
theorem lcmp_eq {x y : Int64} : (lg_cmp x y = nI 0) = (x = y) := propext (lg_cmp_eq x y)
theorem i64_lt {x y : Int32} : (x.toInt64 < y.toInt64) = (x < y) := by
  apply propext
  rw [Int64.lt_iff_toInt_lt, Int32.lt_iff_toInt_lt, Int32.toInt_toInt64, Int32.toInt_toInt64]
theorem lN_64 {n : Nat} (h : n < 2 ^ 31) : lN n = (nI n).toInt64 := (nI_l h).symm
theorem i64_ltn {x : Int32} {n : Nat} (h : n < 2 ^ 31) : (x.toInt64 < lN n) = (x < nI n) := by rw [lN_64 h, i64_lt]
theorem i64_nlt {x : Int32} {n : Nat} (h : n < 2 ^ 31) : (lN n < x.toInt64) = (nI n < x) := by rw [lN_64 h, i64_lt]
theorem b01 {p : Prop} {dp : Decidable p} : (@ite Int32 p dp (nI 1) (nI 0) = nI 0 ∨ @ite Int32 p dp (nI 1) (nI 0) = nI 1) = True := by
  by_cases h : p
  · simp [h]
  · simp [h]
theorem k_X7_in {d : Nat} {v lo hi : Int64} {M : jm_M} : jm_K d md_X7_in [.long v, .long lo, .long hi] M = some (some (.int (if ¬ v < lo ∧ ¬ hi < v then nI 1 else nI 0)), M) := by
  show jm_R d md_X7_in 0 [.long v, .null, .long lo, .null, .long hi, .null] [] M = _
  simp only [e_X7_in_0, e_X7_in_1, e_X7_in_2, e_X7_in_3, e_X7_in_6, e_X7_in_7, e_X7_in_9, e_X7_in_10, e_X7_in_13, e_X7_in_14, e_X7_in_17, e_X7_in_18, true_or, or_true, lcmp_lt, lcmp_gt]
  by_cases h1 : v < lo <;> by_cases h2 : hi < v <;> simp [h1, h2]
theorem k_X7_has {d : Nat} {s b : Int32} {M : jm_M} : jm_K d md_X7_has [.int s, .int b] M = some (some (.int (if (s >>> (b &&& 31)) &&& nI 1 = nI 1 then nI 1 else nI 0)), M) := by
  show jm_R d md_X7_has 0 [.int s, .int b] [] _ = _
  simp only [e_X7_has_0, e_X7_has_1, e_X7_has_2, e_X7_has_3, e_X7_has_4, e_X7_has_5, e_X7_has_6, e_X7_has_9, e_X7_has_10, e_X7_has_13, e_X7_has_14, true_or, or_true]
  by_cases h1 : (s >>> (b &&& 31)) &&& nI 1 = nI 1 <;> simp [h1]
theorem k_X7_find {d : Nat} {v : Int32} {m : Nat → Nat → Int32} : jm_K d md_X7_find [.ref 217, .int v] (jm_mk m) = some (some (.int (-1000010 - v)), jm_mk (jm_up m 217 3 v)) := by
  show jm_R d md_X7_find 0 [.ref 217, .int v] [] _ = _
  simp only [e_X7_find_0, e_X7_find_1, e_X7_find_2, e_X7_find_5, e_X7_find_7, e_X7_find_8, e_X7_find_9]
theorem k_X7_well {d : Nat} {v : Int32} {m : Nat → Nat → Int32} : jm_K d md_X7_well [.ref 217, .int v] (jm_mk m) = some (some (.int v), jm_mk (jm_up m 217 3 (nI 0))) := by
  show jm_R d md_X7_well 0 [.ref 217, .int v] [] _ = _
  simp only [e_X7_well_0, e_X7_well_1, e_X7_well_2, e_X7_well_5, e_X7_well_6]
theorem k_X7_inI {d : Nat} {v lo hi : Int32} {M : jm_M} : jm_K d md_X7_in [.long v.toInt64, .long lo.toInt64, .long hi.toInt64] M = some (some (.int (if ¬ v < lo ∧ ¬ hi < v then nI 1 else nI 0)), M) := by
  rw [k_X7_in]
  simp only [i64_lt]
theorem k_X7_inN {d lo hi : Nat} {v : Int32} {M : jm_M} (h1 : lo < 2 ^ 31) (h2 : hi < 2 ^ 31) : jm_K d md_X7_in [.long v.toInt64, .long (lN lo), .long (lN hi)] M = some (some (.int (if ¬ v < nI lo ∧ ¬ nI hi < v then nI 1 else nI 0)), M) := by
  rw [lN_64 h1, lN_64 h2, k_X7_inI]
theorem k_X7_isRow {d : Nat} {v : Int32} {M : jm_M} {m : Nat → Nat → Int32} : jm_K (d + 1) md_X7_isRow [.int v] (jm_mk m) = some (some (.int (if ¬ v < nI 0 ∧ ¬ nI 7 < v then nI 1 else nI 0)), jm_mk m) := by
  show jm_R (d + 1) md_X7_isRow 0 [.int v] [] _ = _
  simp only [e_X7_isRow_0, e_X7_isRow_1, e_X7_isRow_2, e_X7_isRow_3, e_X7_isRow_6, e_X7_isRow_9, k_X7_inN (show 0 < 2 ^ 31 by decide) (show 7 < 2 ^ 31 by decide), jm_bd_v, b01]
def watM (y : Nat → Int32) (h : Int32) : Int32 := y 1 * (if nI 0 ≤ nI 2 * (h - h / y 0 * y 0) - y 0 then nI 2 * (h - h / y 0 * y 0) - y 0 else -(nI 2 * (h - h / y 0 * y 0) - y 0)) / y 0
section RM
variable {d : Nat} {m : Nat → Nat → Int32} {y : Nat → Int32}
theorem k_X7_waterIn {h : Int32} (hp : ¬ y 0 = 0) : jm_K d md_X7_waterIn [.ref 217, .int h] (jm_mk (wrA m 221 y)) = some (some (.int (watM y h)), jm_mk (wrA m 221 y)) := by
  show jm_R d md_X7_waterIn 0 [.ref 217, .int h, .null] [] _ = _
  simp only [e_X7_waterIn_0, e_X7_waterIn_1, e_X7_waterIn_2, e_X7_waterIn_3, e_X7_waterIn_6, e_X7_waterIn_7, e_X7_waterIn_8, e_X7_waterIn_9, e_X7_waterIn_10, e_X7_waterIn_11, e_X7_waterIn_14, e_X7_waterIn_15, e_X7_waterIn_16, e_X7_waterIn_17, e_X7_waterIn_18, e_X7_waterIn_19, e_X7_waterIn_22, e_X7_waterIn_23, e_X7_waterIn_24, e_X7_waterIn_25, e_X7_waterIn_28, e_X7_waterIn_29, e_X7_waterIn_30, e_X7_waterIn_33, e_X7_waterIn_34, e_X7_waterIn_35, e_X7_waterIn_36, e_X7_waterIn_39, e_X7_waterIn_40, e_X7_waterIn_41, e_X7_waterIn_42, wrA_at, show (0 : Nat) < 44 by decide, show (1 : Nat) < 44 by decide, hp, not_false_eq_true, watM]
  by_cases h1 : nI 0 ≤ nI 2 * (h - h / y 0 * y 0) - y 0
  · simp only [if_pos h1]
  · simp only [if_neg h1]
def dryMs (y : Nat → Int32) (w : Int32) : Nat → Nat → Int32 → Int32 := dryL (fun c => y (8 + c)) w
theorem or0 (s : Int32) : s ||| nI 0 = s := by
  show s ||| 0 = s
  exact Int32.or_zero
theorem lp_X7_dryIn {C : Nat} {h : Int32} (hp : ¬ y 0 = 0) (hC : y 3 = nI C) (hC6 : C ≤ 6) : ∀ (k c : Nat) (s : Int32), c + k = C → jm_R (d + 1) md_X7_dryIn 4 [.ref 217, .int h, .int s, .int (nI c)] [] (jm_mk (wrA m 221 y)) = some (some (.int (dryMs y (watM y h) k c s)), jm_mk (wrA m 221 y)) := by
  intro k
  induction k with
  | zero =>
    intro c s hc
    have h1 : nI C ≤ nI c := nI_le (by omega) (by omega)
    rw [e_X7_dryIn_4]
    simp only [e_X7_dryIn_0, e_X7_dryIn_1, e_X7_dryIn_2, e_X7_dryIn_3, e_X7_dryIn_5, e_X7_dryIn_6, e_X7_dryIn_9, e_X7_dryIn_10, e_X7_dryIn_11, e_X7_dryIn_14, e_X7_dryIn_15, e_X7_dryIn_16, e_X7_dryIn_19, e_X7_dryIn_21, e_X7_dryIn_22, e_X7_dryIn_23, e_X7_dryIn_24, e_X7_dryIn_25, e_X7_dryIn_26, e_X7_dryIn_29, e_X7_dryIn_32, e_X7_dryIn_33, e_X7_dryIn_34, e_X7_dryIn_35, e_X7_dryIn_38, e_X7_dryIn_39, e_X7_dryIn_40, e_X7_dryIn_41, e_X7_dryIn_44, e_X7_dryIn_47, e_X7_dryIn_48, wrA_at, show (3 : Nat) < 44 by decide, hC, h1, if_true]
    rfl
  | succ k ih =>
    intro c s hc
    have h1 : ¬ nI C ≤ nI c := nI_ge (by omega) (by omega)
    have h8 : 8 + c < 44 := by omega
    rw [e_X7_dryIn_4]
    simp only [e_X7_dryIn_0, e_X7_dryIn_1, e_X7_dryIn_2, e_X7_dryIn_3, e_X7_dryIn_5, e_X7_dryIn_6, e_X7_dryIn_9, e_X7_dryIn_10, e_X7_dryIn_11, e_X7_dryIn_14, e_X7_dryIn_15, e_X7_dryIn_16, e_X7_dryIn_19, e_X7_dryIn_21, e_X7_dryIn_22, e_X7_dryIn_23, e_X7_dryIn_24, e_X7_dryIn_25, e_X7_dryIn_26, e_X7_dryIn_29, e_X7_dryIn_32, e_X7_dryIn_33, e_X7_dryIn_34, e_X7_dryIn_35, e_X7_dryIn_38, e_X7_dryIn_39, e_X7_dryIn_40, e_X7_dryIn_41, e_X7_dryIn_44, e_X7_dryIn_47, e_X7_dryIn_48, wrA_at, show (3 : Nat) < 44 by decide, hC, h1, if_false, nI_add, h8, k_X7_waterIn hp, jm_bd_v, ih _ _ (show c + 1 + k = C by omega), or0]
    unfold dryMs
    rw [dryL_s]
    by_cases q : y (8 + c) ≤ watM y h
    · simp only [if_pos q]
    · simp only [if_neg q]
theorem k_X7_dryIn {C : Nat} {h : Int32} (hp : ¬ y 0 = 0) (hC : y 3 = nI C) (hC6 : C ≤ 6) : jm_K (d + 1) md_X7_dryIn [.ref 217, .int h] (jm_mk (wrA m 221 y)) = some (some (.int (dryMs y (watM y h) C 0 (nI 0))), jm_mk (wrA m 221 y)) := by
  show jm_R (d + 1) md_X7_dryIn 0 [.ref 217, .int h, .null, .null] [] _ = _
  simp only [e_X7_dryIn_0, e_X7_dryIn_1, e_X7_dryIn_2, e_X7_dryIn_3, e_X7_dryIn_5, e_X7_dryIn_6, e_X7_dryIn_9, e_X7_dryIn_10, e_X7_dryIn_11, e_X7_dryIn_14, e_X7_dryIn_15, e_X7_dryIn_16, e_X7_dryIn_19, e_X7_dryIn_21, e_X7_dryIn_22, e_X7_dryIn_23, e_X7_dryIn_24, e_X7_dryIn_25, e_X7_dryIn_26, e_X7_dryIn_29, e_X7_dryIn_32, e_X7_dryIn_33, e_X7_dryIn_34, e_X7_dryIn_35, e_X7_dryIn_38, e_X7_dryIn_39, e_X7_dryIn_40, e_X7_dryIn_41, e_X7_dryIn_44, e_X7_dryIn_47, e_X7_dryIn_48]
  exact lp_X7_dryIn hp hC hC6 C 0 (nI 0) (by omega)
def wayM (y : Nat → Int32) (j : Nat) (dr : Int32) : Int32 :=
  if y (14 + j) = nI 2 then y (26 + j) * y 2 / nI 2 + (if y 2 = nI 0 then nI 0 else nI 1)
  else if y (14 + j) = nI 3 then nI 2 + (if y 2 = nI 0 then y (26 + j) / nI 2 else nI 0)
  else if y (14 + j) = nI 4 then (if dr = nI 0 then nI 0 else y (26 + j))
  else if y (14 + j) = nI 5 then (if (if dr = nI 0 then nI 0 else y (26 + j)) ≤ y 2 then nI 0 else (if dr = nI 0 then nI 0 else y (26 + j)) - y 2)
  else y (26 + j) * y 2 / nI 2
theorem k_X7_wayOf {C j : Nat} (hp : ¬ y 0 = 0) (hC : y 3 = nI C) (hC6 : C ≤ 6) (hj : j < 6) : jm_K (d + 2) md_X7_wayOf [.ref 217, .int (nI j)] (jm_mk (wrA m 221 y)) = some (some (.int (wayM y j (dryMs y (watM y (y 5)) C 0 (nI 0)))), jm_mk (wrA m 221 y)) := by
  show jm_R (d + 2) md_X7_wayOf 0 [.ref 217, .int (nI j), .null, .null, .null] [] _ = _
  have h26 : 26 + j < 44 := by omega
  have h14 : 14 + j < 44 := by omega
  simp only [e_X7_wayOf_0, e_X7_wayOf_1, e_X7_wayOf_4, e_X7_wayOf_6, e_X7_wayOf_7, e_X7_wayOf_8, e_X7_wayOf_9, e_X7_wayOf_10, e_X7_wayOf_11, e_X7_wayOf_14, e_X7_wayOf_15, e_X7_wayOf_16, e_X7_wayOf_17, e_X7_wayOf_18, e_X7_wayOf_19, e_X7_wayOf_22, e_X7_wayOf_23, e_X7_wayOf_24, e_X7_wayOf_27, e_X7_wayOf_30, e_X7_wayOf_31, e_X7_wayOf_34, e_X7_wayOf_35, e_X7_wayOf_37, e_X7_wayOf_38, e_X7_wayOf_41, e_X7_wayOf_43, e_X7_wayOf_44, e_X7_wayOf_45, e_X7_wayOf_46, e_X7_wayOf_76, e_X7_wayOf_77, e_X7_wayOf_78, e_X7_wayOf_79, e_X7_wayOf_80, e_X7_wayOf_81, e_X7_wayOf_82, e_X7_wayOf_85, e_X7_wayOf_86, e_X7_wayOf_89, e_X7_wayOf_90, e_X7_wayOf_91, e_X7_wayOf_92, e_X7_wayOf_93, e_X7_wayOf_94, e_X7_wayOf_97, e_X7_wayOf_98, e_X7_wayOf_99, e_X7_wayOf_100, e_X7_wayOf_103, e_X7_wayOf_104, e_X7_wayOf_105, e_X7_wayOf_106, e_X7_wayOf_108, e_X7_wayOf_109, e_X7_wayOf_111, e_X7_wayOf_112, e_X7_wayOf_115, e_X7_wayOf_117, e_X7_wayOf_118, e_X7_wayOf_119, e_X7_wayOf_122, e_X7_wayOf_123, e_X7_wayOf_124, e_X7_wayOf_125, e_X7_wayOf_126, e_X7_wayOf_127, e_X7_wayOf_128, e_X7_wayOf_129, wrA_at, show (2 : Nat) < 44 by decide, show (5 : Nat) < 44 by decide, nI_add, h26, h14, k_X7_dryIn hp hC hC6, jm_bd_v, nI2_ne, not_false_eq_true, wayM]
  generalize dryMs y (watM y (y 5)) C 0 (nI 0) = dr
  by_cases cd : dr = nI 0
  · by_cases c2 : y (14 + j) = nI 2
    · by_cases c5 : y 2 = nI 0
      · simp only [if_pos cd, if_pos c2, if_pos c5]
      · simp only [if_pos cd, if_pos c2, if_neg c5]
    · by_cases c3 : y (14 + j) = nI 3
      · by_cases c5 : y 2 = nI 0
        · simp only [if_pos cd, if_neg c2, if_pos c3, if_pos c5, if_neg (fun h : ¬ y 2 = nI 0 => h c5)]
        · simp only [if_pos cd, if_neg c2, if_pos c3, if_neg c5, if_pos c5, nI_add]
      · by_cases c4 : y (14 + j) = nI 4
        · simp only [if_pos cd, if_neg c2, if_neg c3, if_pos c4]
        · by_cases c6 : y (14 + j) = nI 5
          · by_cases c7 : nI 0 ≤ y 2
            · simp only [if_pos cd, if_neg c2, if_neg c3, if_neg c4, if_pos c6, if_pos c7]
            · simp only [if_pos cd, if_neg c2, if_neg c3, if_neg c4, if_pos c6, if_neg c7]
          · simp only [if_pos cd, if_neg c2, if_neg c3, if_neg c4, if_neg c6]
  · by_cases c2 : y (14 + j) = nI 2
    · by_cases c5 : y 2 = nI 0
      · simp only [if_neg cd, if_pos c2, if_pos c5]
      · simp only [if_neg cd, if_pos c2, if_neg c5]
    · by_cases c3 : y (14 + j) = nI 3
      · by_cases c5 : y 2 = nI 0
        · simp only [if_neg cd, if_neg c2, if_pos c3, if_pos c5, if_neg (fun h : ¬ y 2 = nI 0 => h c5)]
        · simp only [if_neg cd, if_neg c2, if_pos c3, if_neg c5, if_pos c5, nI_add]
      · by_cases c4 : y (14 + j) = nI 4
        · simp only [if_neg cd, if_neg c2, if_neg c3, if_pos c4]
        · by_cases c6 : y (14 + j) = nI 5
          · by_cases c7 : y (26 + j) ≤ y 2
            · simp only [if_neg cd, if_neg c2, if_neg c3, if_neg c4, if_pos c6, if_pos c7]
            · simp only [if_neg cd, if_neg c2, if_neg c3, if_neg c4, if_pos c6, if_neg c7]
          · simp only [if_neg cd, if_neg c2, if_neg c3, if_neg c4, if_neg c6]
def thrL (f : Nat → Int32) : Nat → Nat → Int32 → Int32
  | 0, _, s => s
  | k + 1, c, s => thrL f k (c + 1) (if f c = nI 0 then s ||| (nI 1 <<< (nI c &&& 31)) else s)
theorem thrL_s {f : Nat → Int32} {k c : Nat} {s : Int32} : thrL f (k + 1) c s = thrL f k (c + 1) (if f c = nI 0 then s ||| (nI 1 <<< (nI c &&& 31)) else s) := rfl
theorem lp_X7_thereSet {N : Nat} (hN : y 4 = nI N) (hN6 : N ≤ 6) : ∀ (k c : Nat) (s : Int32), c + k = N → jm_R d md_X7_thereSet 4 [.ref 217, .int s, .int (nI c)] [] (jm_mk (wrA m 221 y)) = some (some (.int (thrL (fun b => y (32 + b)) k c s)), jm_mk (wrA m 221 y)) := by
  intro k
  induction k with
  | zero =>
    intro c s hc
    have h1 : nI N ≤ nI c := nI_le (by omega) (by omega)
    rw [e_X7_thereSet_4]
    simp only [e_X7_thereSet_0, e_X7_thereSet_1, e_X7_thereSet_2, e_X7_thereSet_3, e_X7_thereSet_5, e_X7_thereSet_6, e_X7_thereSet_9, e_X7_thereSet_10, e_X7_thereSet_11, e_X7_thereSet_14, e_X7_thereSet_15, e_X7_thereSet_16, e_X7_thereSet_19, e_X7_thereSet_21, e_X7_thereSet_22, e_X7_thereSet_23, e_X7_thereSet_24, e_X7_thereSet_27, e_X7_thereSet_28, e_X7_thereSet_29, e_X7_thereSet_30, e_X7_thereSet_33, e_X7_thereSet_34, e_X7_thereSet_35, e_X7_thereSet_36, e_X7_thereSet_39, e_X7_thereSet_42, e_X7_thereSet_43, wrA_at, show (4 : Nat) < 44 by decide, hN, h1, if_true]
    rfl
  | succ k ih =>
    intro c s hc
    have h1 : ¬ nI N ≤ nI c := nI_ge (by omega) (by omega)
    have h8 : 32 + c < 44 := by omega
    rw [e_X7_thereSet_4]
    simp only [e_X7_thereSet_0, e_X7_thereSet_1, e_X7_thereSet_2, e_X7_thereSet_3, e_X7_thereSet_5, e_X7_thereSet_6, e_X7_thereSet_9, e_X7_thereSet_10, e_X7_thereSet_11, e_X7_thereSet_14, e_X7_thereSet_15, e_X7_thereSet_16, e_X7_thereSet_19, e_X7_thereSet_21, e_X7_thereSet_22, e_X7_thereSet_23, e_X7_thereSet_24, e_X7_thereSet_27, e_X7_thereSet_28, e_X7_thereSet_29, e_X7_thereSet_30, e_X7_thereSet_33, e_X7_thereSet_34, e_X7_thereSet_35, e_X7_thereSet_36, e_X7_thereSet_39, e_X7_thereSet_42, e_X7_thereSet_43, wrA_at, show (4 : Nat) < 44 by decide, hN, h1, if_false, nI_add, h8, ih _ _ (show c + 1 + k = N by omega), or0]
    rw [thrL_s]
    by_cases q : y (32 + c) = nI 0
    · simp only [if_pos q, if_neg (fun h : ¬ y (32 + c) = nI 0 => h q)]
    · simp only [if_neg q, if_pos q]
theorem k_X7_thereSet {N : Nat} (hN : y 4 = nI N) (hN6 : N ≤ 6) : jm_K d md_X7_thereSet [.ref 217] (jm_mk (wrA m 221 y)) = some (some (.int (thrL (fun b => y (32 + b)) N 0 (nI 0))), jm_mk (wrA m 221 y)) := by
  show jm_R d md_X7_thereSet 0 [.ref 217, .null, .null] [] _ = _
  simp only [e_X7_thereSet_0, e_X7_thereSet_1, e_X7_thereSet_2, e_X7_thereSet_3, e_X7_thereSet_5, e_X7_thereSet_6, e_X7_thereSet_9, e_X7_thereSet_10, e_X7_thereSet_11, e_X7_thereSet_14, e_X7_thereSet_15, e_X7_thereSet_16, e_X7_thereSet_19, e_X7_thereSet_21, e_X7_thereSet_22, e_X7_thereSet_23, e_X7_thereSet_24, e_X7_thereSet_27, e_X7_thereSet_28, e_X7_thereSet_29, e_X7_thereSet_30, e_X7_thereSet_33, e_X7_thereSet_34, e_X7_thereSet_35, e_X7_thereSet_36, e_X7_thereSet_39, e_X7_thereSet_42, e_X7_thereSet_43]
  exact lp_X7_thereSet hN hN6 N 0 (nI 0) (by omega)
end RM
