/-! contracts: the class's small methods -/
def jb (p : Prop) (dp : Decidable p) : Int32 := @ite _ p dp (nI 1) (nI 0)
theorem k_X6_within {d : Nat} {v lo hi : Int32} {M : jm_M} : jm_K d md_X6_within [.int v, .int lo, .int hi] M = some (some (.int (if ¬ v < lo ∧ ¬ hi < v then nI 1 else nI 0)), M) := by
  show jm_R d md_X6_within 0 [.int v, .int lo, .int hi] [] M = _
  simp only [e_X6_within_0, e_X6_within_1, e_X6_within_2, e_X6_within_5, e_X6_within_6, e_X6_within_7, e_X6_within_10, e_X6_within_11, e_X6_within_14, e_X6_within_15, true_or, or_true]
  by_cases h1 : v < lo <;> by_cases h2 : hi < v <;> simp [h1, h2]
theorem k_X6_bit {d : Nat} {v : Int32} {M : jm_M} : jm_K d md_X6_bit [.int v] M = some (some (.int (if v = nI 0 then nI 0 else nI 1)), M) := by
  show jm_R d md_X6_bit 0 [.int v] [] M = _
  simp only [e_X6_bit_0, e_X6_bit_1, e_X6_bit_4, e_X6_bit_5, e_X6_bit_8, e_X6_bit_9]
  by_cases h1 : v = nI 0 <;> simp [h1]
theorem k_X6_boatOrNone {d : Nat} {v : Int32} {M : jm_M} : jm_K d md_X6_boatOrNone [.int v] M = some (some (.int (if v = -1 then -1000000 else v)), M) := by
  show jm_R d md_X6_boatOrNone 0 [.int v] [] M = _
  simp only [e_X6_boatOrNone_0, e_X6_boatOrNone_1, e_X6_boatOrNone_2, e_X6_boatOrNone_5, e_X6_boatOrNone_7, e_X6_boatOrNone_10, e_X6_boatOrNone_11]
  by_cases h1 : v = -1 <;> simp [h1]
theorem k_X6_finding {d : Nat} {v : Int32} {m : Nat → Nat → Int32} : jm_K d md_X6_finding [.ref 0, .int v] (jm_mk m) = some (some (.int (-1000010 - v)), jm_mk (jm_up m 0 7 v)) := by
  show jm_R d md_X6_finding 0 [.ref 0, .int v] [] _ = _
  simp only [e_X6_finding_0, e_X6_finding_1, e_X6_finding_2, e_X6_finding_5, e_X6_finding_8, e_X6_finding_9, e_X6_finding_10]
theorem k_X6_fine {d : Nat} {v : Int32} {m : Nat → Nat → Int32} : jm_K d md_X6_fine [.ref 0, .int v] (jm_mk m) = some (some (.int v), jm_mk (jm_up m 0 7 (nI 0))) := by
  show jm_R d md_X6_fine 0 [.ref 0, .int v] [] _ = _
  simp only [e_X6_fine_0, e_X6_fine_1, e_X6_fine_2, e_X6_fine_5, e_X6_fine_6]
theorem k_X2_stands {d a : Nat} (ha : jm_ia a = true) {m : Nat → Nat → Int32} : jm_K d md_X2_stands [.ref a] (jm_mk m) = some (some (.int (if m a 6 ≤ nI 0 then nI 0 else nI 1)), jm_mk m) := by
  show jm_R d md_X2_stands 0 [.ref a] [] _ = _
  simp only [e_X2_stands_0, e_X2_stands_1, e_X2_stands_4, e_X2_stands_7, e_X2_stands_8, e_X2_stands_11, e_X2_stands_12, ha, true_or, or_true]
  by_cases h1 : m a 6 ≤ nI 0 <;> simp [h1]
theorem k_X2_hasBoat {d a : Nat} (ha : jm_ia a = true) {b : Int32} {m : Nat → Nat → Int32} : jm_K d md_X2_hasBoat [.ref a, .int b] (jm_mk m) = some (some (.int (if ¬ b < nI 0 ∧ ¬ m a 6 ≤ b then nI 1 else nI 0)), jm_mk m) := by
  show jm_R d md_X2_hasBoat 0 [.ref a, .int b] [] _ = _
  simp only [e_X2_hasBoat_0, e_X2_hasBoat_1, e_X2_hasBoat_4, e_X2_hasBoat_5, e_X2_hasBoat_6, e_X2_hasBoat_9, e_X2_hasBoat_12, e_X2_hasBoat_13, e_X2_hasBoat_16, e_X2_hasBoat_17, ha, true_or, or_true]
  by_cases h1 : b < nI 0 <;> by_cases h2 : m a 6 ≤ b <;> simp [h1, h2]
theorem k_X2_hasCell {d a : Nat} (ha : jm_ia a = true) {b : Int32} {m : Nat → Nat → Int32} : jm_K d md_X2_hasCell [.ref a, .int b] (jm_mk m) = some (some (.int (if ¬ b < nI 0 ∧ ¬ m a 5 ≤ b then nI 1 else nI 0)), jm_mk m) := by
  show jm_R d md_X2_hasCell 0 [.ref a, .int b] [] _ = _
  simp only [e_X2_hasCell_0, e_X2_hasCell_1, e_X2_hasCell_4, e_X2_hasCell_5, e_X2_hasCell_6, e_X2_hasCell_9, e_X2_hasCell_12, e_X2_hasCell_13, e_X2_hasCell_16, e_X2_hasCell_17, ha, true_or, or_true]
  by_cases h1 : b < nI 0 <;> by_cases h2 : m a 5 ≤ b <;> simp [h1, h2]
theorem k_X2_isSent {d a : Nat} (ha : jm_ia a = true) {b : Int32} {m : Nat → Nat → Int32} : jm_K d md_X2_isSent [.ref a, .int b] (jm_mk m) = some (some (.int (if (m a 7 >>> (b &&& 31)) &&& nI 1 = nI 1 then nI 1 else nI 0)), jm_mk m) := by
  show jm_R d md_X2_isSent 0 [.ref a, .int b] [] _ = _
  simp only [e_X2_isSent_0, e_X2_isSent_1, e_X2_isSent_4, e_X2_isSent_5, e_X2_isSent_6, e_X2_isSent_7, e_X2_isSent_8, e_X2_isSent_9, e_X2_isSent_12, e_X2_isSent_13, e_X2_isSent_16, e_X2_isSent_17, ha, true_or, or_true]
  by_cases h1 : (m a 7 >>> (b &&& 31)) &&& nI 1 = nI 1 <;> simp [h1]
theorem k_X2_waterBehind {d a : Nat} (ha : jm_ia a = true) {b : Int32} {m : Nat → Nat → Int32} (hp : ¬ m a 0 = 0) (hp2 : nI 1 ≤ m a 0) : jm_K d md_X2_waterBehind [.ref a, .int b] (jm_mk m) = some (some (.int (m a 1 * (if nI 0 ≤ nI 2 * (m a 3 + b - (m a 3 + b) / m a 0 * m a 0) - m a 0 then nI 2 * (m a 3 + b - (m a 3 + b) / m a 0 * m a 0) - m a 0 else -(nI 2 * (m a 3 + b - (m a 3 + b) / m a 0 * m a 0) - m a 0)) / m a 0)), jm_mk m) := by
  show jm_R d md_X2_waterBehind 0 [.ref a, .int b, .null] [] _ = _
  simp only [e_X2_waterBehind_0, e_X2_waterBehind_1, e_X2_waterBehind_4, e_X2_waterBehind_5, e_X2_waterBehind_8, e_X2_waterBehind_9, e_X2_waterBehind_10, e_X2_waterBehind_11, e_X2_waterBehind_12, e_X2_waterBehind_15, e_X2_waterBehind_16, e_X2_waterBehind_17, e_X2_waterBehind_18, e_X2_waterBehind_21, e_X2_waterBehind_22, e_X2_waterBehind_23, e_X2_waterBehind_24, e_X2_waterBehind_27, e_X2_waterBehind_28, e_X2_waterBehind_29, e_X2_waterBehind_30, e_X2_waterBehind_33, e_X2_waterBehind_34, e_X2_waterBehind_37, e_X2_waterBehind_38, e_X2_waterBehind_39, e_X2_waterBehind_42, e_X2_waterBehind_43, e_X2_waterBehind_44, e_X2_waterBehind_45, e_X2_waterBehind_48, e_X2_waterBehind_49, ha, hp, hp2, not_false_eq_true, if_true]
  by_cases h1 : nI 0 ≤ nI 2 * (m a 3 + b - (m a 3 + b) / m a 0 * m a 0) - m a 0 <;> simp only [h1, if_true, if_false]
