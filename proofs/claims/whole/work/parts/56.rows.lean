/-! set -/
theorem nI_mulN (a b : Nat) : nI a * nI b = nI (a * b) := (Int32.ofNat_mul a b).symm
theorem byte_sh (v : Int32) : (v <<< (nI 24 &&& 31)) >>> (nI 24 &&& 31) = v.toInt8.toInt32 := by
  have e : nI 24 &&& 31 = 24 := by decide
  rw [e]
  apply Int32.toBitVec_inj.mp
  rw [Int32.toBitVec_shiftRight, Int32.toBitVec_shiftLeft, Int8.toBitVec_toInt32, Int32.toBitVec_toInt8]
  have e2 : (24 : Int32).toBitVec.smod 32 = 24 := by decide
  rw [e2]
  ext i hi
  simp only [BitVec.sshiftRight_eq', BitVec.getElem_sshiftRight, BitVec.getElem_signExtend, BitVec.shiftLeft_eq', BitVec.getElem_shiftLeft, BitVec.getLsbD_shiftLeft]
  by_cases q : i < 8
  · simp [q, show 24 + i < 32 by omega, hi]
  · simp [q, show ¬ 24 + i < 32 by omega, BitVec.msb_signExtend]
theorem short_sh (v : Int32) : (v <<< (nI 16 &&& 31)) >>> (nI 16 &&& 31) = v.toInt16.toInt32 := by
  have e : nI 16 &&& 31 = 16 := by decide
  rw [e]
  apply Int32.toBitVec_inj.mp
  rw [Int32.toBitVec_shiftRight, Int32.toBitVec_shiftLeft, Int16.toBitVec_toInt32, Int32.toBitVec_toInt16]
  have e2 : (16 : Int32).toBitVec.smod 32 = 16 := by decide
  rw [e2]
  ext i hi
  simp only [BitVec.sshiftRight_eq', BitVec.getElem_sshiftRight, BitVec.getElem_signExtend, BitVec.shiftLeft_eq', BitVec.getElem_shiftLeft, BitVec.getLsbD_shiftLeft]
  by_cases q : i < 16
  · simp [q, show 16 + i < 32 by omega, hi]
  · simp [q, show ¬ 16 + i < 32 by omega, BitVec.msb_signExtend]
def cutL (lane v : Int32) : Int32 := if lane = nI 0 then v.toInt8.toInt32 else if lane = nI 1 then v.toInt16.toInt32 else v
theorem k_X7_asLane {d : Nat} {l v : Int32} {M : jm_M} : jm_K d md_X7_asLane [.int l, .int v] M = some (some (.int (cutL l v)), M) := by
  show jm_R d md_X7_asLane 0 [.int l, .int v] [] _ = _
  simp only [e_X7_asLane_0, e_X7_asLane_1, e_X7_asLane_4, e_X7_asLane_5, e_X7_asLane_7, e_X7_asLane_8, e_X7_asLane_10, e_X7_asLane_11, e_X7_asLane_14, e_X7_asLane_15, e_X7_asLane_16, e_X7_asLane_19, e_X7_asLane_20, e_X7_asLane_22, e_X7_asLane_23, e_X7_asLane_25, e_X7_asLane_26, e_X7_asLane_29, e_X7_asLane_30, byte_sh, short_sh, cutL]
  by_cases q : l = nI 0
  · simp only [if_pos q, if_neg (fun h : ¬ l = nI 0 => h q)]
  · by_cases z : l = nI 1
    · simp only [if_neg q, if_pos q, if_pos z, if_neg (fun h : ¬ l = nI 1 => h z)]
    · simp only [if_neg q, if_pos q, if_neg z, if_pos z]
theorem k_X3_put {d r i : Nat} {v : Int32} {m : Nat → Nat → Int32} (hr : r < 8) (hi : i < 40) : jm_K d md_X3_put [.ref 1, .int (nI r), .int (nI i), .int v] (jm_mk m) = some (some (.int (cutL (m 11 r) v)), jm_mk (jm_up m (3 + r) i (cutL (m 11 r) v))) := by
  show jm_R d md_X3_put 0 [.ref 1, .int (nI r), .int (nI i), .int v, .null] [] _ = _
  simp only [e_X3_put_0, e_X3_put_1, e_X3_put_4, e_X3_put_5, e_X3_put_6, e_X3_put_9, e_X3_put_10, e_X3_put_11, e_X3_put_14, e_X3_put_15, e_X3_put_18, e_X3_put_19, e_X3_put_20, e_X3_put_21, e_X3_put_24, e_X3_put_25, e_X3_put_26, e_X3_put_29, e_X3_put_30, e_X3_put_32, e_X3_put_33, e_X3_put_36, e_X3_put_37, e_X3_put_38, e_X3_put_39, e_X3_put_42, e_X3_put_44, hr, cutL]
  by_cases q : m 11 r = nI 0
  · simp only [if_pos q, if_neg (fun h : ¬ m 11 r = nI 0 => h q), e_X3_put_41 (q := 3 + r) (n := 40) (kd3 hr) (ln3 hr) hi (by decide), e_X3_put_42, e_X3_put_44]
  · by_cases z : m 11 r = nI 1
    · simp only [if_neg q, if_pos q, if_pos z, if_neg (fun h : ¬ m 11 r = nI 1 => h z), e_X3_put_41 (q := 3 + r) (n := 40) (kd3 hr) (ln3 hr) hi (by decide), e_X3_put_42, e_X3_put_44]
    · simp only [if_neg q, if_pos q, if_neg z, if_pos z, e_X3_put_41 (q := 3 + r) (n := 40) (kd3 hr) (ln3 hr) hi (by decide), e_X3_put_42, e_X3_put_44]
def hpP (i n : Int32) (l : Nat) : Prop := ∃ a b, i = nI a ∧ n = nI b ∧ a + b ≤ l
theorem hp_of {i n : Int32} {l : Nat} (hl : l ≤ 40) (h1 : ¬ n < nI 0) (h2 : ¬ i < nI 0 ∧ ¬ nI l < i) (h3 : ¬ nI l - i < n) : hpP i n l := by
  obtain ⟨a, -, ha, rfl⟩ := rg_of h2 (by omega) (by omega)
  obtain ⟨b, hb, rfl⟩ := nI_of (x := n) h1
  rw [nI_subN ha (by omega)] at h3
  refine ⟨a, b, rfl, rfl, ?_⟩
  rcases Nat.lt_or_ge (l - a) b with q | q
  · exact absurd (nI_lt q hb) h3
  · omega
theorem k_hasP {d r a b l : Nat} {m : Nat → Nat → Int32} (hr : r < 8) (hm : m 12 r = nI l) (hl : l ≤ 40) (h : a + b ≤ l) : jm_K (d + 1) md_X3_hasPlaces [.ref 1, .int (nI r), .int (nI a), .int (nI b)] (jm_mk m) = some (some (.int (nI 1)), jm_mk m) := by
  show jm_R (d + 1) md_X3_hasPlaces 0 [.ref 1, .int (nI r), .int (nI a), .int (nI b)] [] _ = _
  have h1 : ¬ nI b < nI 0 := nI_nlt0 (by omega)
  have h2 : ¬ nI a < nI 0 ∧ ¬ nI l < nI a := ⟨nI_nlt0 (by omega), nI_nlt (by omega) (by omega)⟩
  have h3 : ¬ nI (l - a) < nI b := nI_nlt (by omega) (by omega)
  simp only [e_X3_hasPlaces_0, e_X3_hasPlaces_1, e_X3_hasPlaces_4, e_X3_hasPlaces_5, e_X3_hasPlaces_6, e_X3_hasPlaces_7, e_X3_hasPlaces_10, e_X3_hasPlaces_11, e_X3_hasPlaces_12, e_X3_hasPlaces_15, e_X3_hasPlaces_18, e_X3_hasPlaces_19, e_X3_hasPlaces_20, e_X3_hasPlaces_23, e_X3_hasPlaces_24, e_X3_hasPlaces_25, e_X3_hasPlaces_26, e_X3_hasPlaces_27, e_X3_hasPlaces_30, e_X3_hasPlaces_31, e_X3_hasPlaces_34, e_X3_hasPlaces_35, hr, hm, h1, if_false, k_X6_within, jm_bd_v, if_pos h2, bv1, nI_subN (show a ≤ l by omega) (show l < 1000000 by omega), h3, true_or, or_true]
theorem k_hasN {d r l : Nat} {i n : Int32} {m : Nat → Nat → Int32} (hr : r < 8) (hm : m 12 r = nI l) (hl : l ≤ 40) (h : ¬ hpP i n l) : jm_K (d + 1) md_X3_hasPlaces [.ref 1, .int (nI r), .int i, .int n] (jm_mk m) = some (some (.int (nI 0)), jm_mk m) := by
  show jm_R (d + 1) md_X3_hasPlaces 0 [.ref 1, .int (nI r), .int i, .int n] [] _ = _
  by_cases h1 : n < nI 0
  · simp only [e_X3_hasPlaces_0, e_X3_hasPlaces_1, e_X3_hasPlaces_4, e_X3_hasPlaces_5, e_X3_hasPlaces_6, e_X3_hasPlaces_7, e_X3_hasPlaces_10, e_X3_hasPlaces_11, e_X3_hasPlaces_12, e_X3_hasPlaces_15, e_X3_hasPlaces_18, e_X3_hasPlaces_19, e_X3_hasPlaces_20, e_X3_hasPlaces_23, e_X3_hasPlaces_24, e_X3_hasPlaces_25, e_X3_hasPlaces_26, e_X3_hasPlaces_27, e_X3_hasPlaces_30, e_X3_hasPlaces_31, e_X3_hasPlaces_34, e_X3_hasPlaces_35, h1, if_true, true_or, or_true]
  · by_cases h2 : ¬ i < nI 0 ∧ ¬ nI l < i
    · by_cases h3 : nI l - i < n
      · simp only [e_X3_hasPlaces_0, e_X3_hasPlaces_1, e_X3_hasPlaces_4, e_X3_hasPlaces_5, e_X3_hasPlaces_6, e_X3_hasPlaces_7, e_X3_hasPlaces_10, e_X3_hasPlaces_11, e_X3_hasPlaces_12, e_X3_hasPlaces_15, e_X3_hasPlaces_18, e_X3_hasPlaces_19, e_X3_hasPlaces_20, e_X3_hasPlaces_23, e_X3_hasPlaces_24, e_X3_hasPlaces_25, e_X3_hasPlaces_26, e_X3_hasPlaces_27, e_X3_hasPlaces_30, e_X3_hasPlaces_31, e_X3_hasPlaces_34, e_X3_hasPlaces_35, hr, hm, h1, if_false, k_X6_within, jm_bd_v, if_pos h2, bv1, h3, if_true, true_or, or_true]
      · exact absurd (hp_of hl h1 h2 h3) h
    · simp only [e_X3_hasPlaces_0, e_X3_hasPlaces_1, e_X3_hasPlaces_4, e_X3_hasPlaces_5, e_X3_hasPlaces_6, e_X3_hasPlaces_7, e_X3_hasPlaces_10, e_X3_hasPlaces_11, e_X3_hasPlaces_12, e_X3_hasPlaces_15, e_X3_hasPlaces_18, e_X3_hasPlaces_19, e_X3_hasPlaces_20, e_X3_hasPlaces_23, e_X3_hasPlaces_24, e_X3_hasPlaces_25, e_X3_hasPlaces_26, e_X3_hasPlaces_27, e_X3_hasPlaces_30, e_X3_hasPlaces_31, e_X3_hasPlaces_34, e_X3_hasPlaces_35, hr, hm, h1, if_false, k_X6_within, jm_bd_v, if_neg h2, if_true, true_or, or_true]
/-- only rows change -/
theorem Rel.rows {m m' : Nat → Nat → Int32} (hR : Rel m) (h : ∀ a, ¬ ((3 ≤ a ∧ a ≤ 12) ∨ a = 218 ∨ a = 219 ∨ a = 220 ∨ a = 222) → m' a = m a) (h1 : R1 m') : Rel m' := by
  obtain ⟨g1, g2, g3, g4, g5, g6, g7⟩ := hR
  exact ⟨h1, g2.c (by rw [h 0 (by decide)]) (by rw [h 217 (by decide)]), g3.c (by rw [h 13 (by decide)]) (by rw [h 13 (by decide)]) (by rw [h 217 (by decide)]) (by rw [h 217 (by decide)]) (h 14 (by decide)) (h 223 (by decide)), g4.c (by rw [h 217 (by decide)]) (fun a ha hb => h a (by omega)) (fun j _ => by rw [h 221 (by decide)]) (by rw [h 217 (by decide)]), g5.c (by rw [h 15 (by decide)]) (by rw [h 15 (by decide)]) (by rw [h 217 (by decide)]) (fun a ha hb => h a (by omega)) (h 225 (by decide)), g6.c (fun a ha hb => h a (by omega)) (h 227 (by decide)) (h 228 (by decide)) (by rw [h 217 (by decide)]), g7.c (by rw [h 215 (by decide)]) (by rw [h 217 (by decide)]) (h 216 (by decide)) (h 229 (by decide))⟩
theorem api_set (r i v : Int32) : Api md_X6_set md_X7_set [.int r, .int i, .int v] := by
  intro m hR
  have hR1 := hR.1
  by_cases hr : ¬ r < nI 0 ∧ ¬ nI 7 < r
  · obtain ⟨r, h8, rfl⟩ := rowOf hr
    rcases hR1 r h8 with ⟨q1, q2⟩ | ⟨k, n, h1, h2, h3, h4, h5, h6, h7⟩
    · have q3 : ¬ nI 0 ≤ (-1 : Int32) := by decide
      refine Api.fnd hR (nI 1) (r := .int (-1000010 - nI 1)) ?_ ?_
      · show jm_R 12 md_X6_set 0 [.ref 0, .int (nI r), .int i, .int v] [] _ = _
        simp only [e_X6_set_0, e_X6_set_1, e_X6_set_4, e_X6_set_7, e_X6_set_9, e_X6_set_10, e_X6_set_11, e_X6_set_14, e_X6_set_15, e_X6_set_18, e_X6_set_21, e_X6_set_22, e_X6_set_23, e_X6_set_26, e_X6_set_27, e_X6_set_28, e_X6_set_31, e_X6_set_32, e_X6_set_33, e_X6_set_34, e_X6_set_37, e_X6_set_40, e_X6_set_41, e_X6_set_42, e_X6_set_45, e_X6_set_46, e_X6_set_47, e_X6_set_48, e_X6_set_51, e_X6_set_52, e_X6_set_53, e_X6_set_54, e_X6_set_57, e_X6_set_60, k_X3_isRow, k_X3_isMissing h8, jm_bd_v, jm_bd_0, bv1, if_false, if_true, not_false_eq_true, not_true_eq_false, if_pos hr, q1, k_X6_finding]
      · show jm_R 12 md_X7_set 0 [.ref 217, .int (nI r), .int i, .int v] [] _ = _
        simp only [e_X7_set_0, e_X7_set_1, e_X7_set_4, e_X7_set_7, e_X7_set_9, e_X7_set_10, e_X7_set_11, e_X7_set_14, e_X7_set_15, e_X7_set_16, e_X7_set_19, e_X7_set_20, e_X7_set_21, e_X7_set_24, e_X7_set_25, e_X7_set_26, e_X7_set_27, e_X7_set_28, e_X7_set_29, e_X7_set_32, e_X7_set_33, e_X7_set_34, e_X7_set_35, e_X7_set_36, e_X7_set_37, e_X7_set_40, e_X7_set_43, e_X7_set_44, e_X7_set_45, e_X7_set_48, e_X7_set_49, e_X7_set_50, e_X7_set_53, e_X7_set_55, e_X7_set_56, e_X7_set_57, e_X7_set_58, e_X7_set_59, e_X7_set_60, e_X7_set_63, e_X7_set_64, e_X7_set_65, e_X7_set_66, e_X7_set_69, e_X7_set_70, e_X7_set_71, e_X7_set_72, e_X7_set_75, e_X7_set_77, e_X7_set_78, e_X7_set_79, e_X7_set_80, e_X7_set_81, e_X7_set_82, e_X7_set_85, isRow7, jm_bd_v, jm_bd_0, bv1, if_false, if_true, not_false_eq_true, not_true_eq_false, if_pos hr, h8, jupr (show (219 : Nat) ≠ 0 by decide), q2, q3, k_X7_find]
    · have e1 : ¬ m 11 r = -1 := by rw [h3]; exact nI_m1 (by omega)
      have e2 : nI 0 ≤ nI n := nI_le (Nat.zero_le _) (by omega)
      have et : (nI n - nI 1 < i) = (nI n ≤ i) := by
        apply propext
        rw [Int32.lt_iff_toInt_lt, Int32.le_iff_toInt_le, nI_toInt (by omega), pk_sub_toInt (by omega) (by omega)]
        omega
      by_cases hp : hpP i (nI 1) n
      · obtain ⟨a, b, rfl, eb, hab⟩ := hp
        have hb1 : b = 1 := by
          have := (nI_eq (a := 1) (b := b) (by decide) (by omega)).mp eb
          omega
        subst hb1
        have hi : ¬ nI a < nI 0 ∧ ¬ nI n ≤ nI a := ⟨nI_nlt0 (by omega), nI_ge (by omega) (by omega)⟩
        have ha : a < 40 := by omega
        have h320 : 40 * r + a < 320 := by omega
        have hlane : m 11 r = m 218 r := by rw [h3, h4]
        refine ⟨.int (cutL (m 11 r) v), jm_up (jm_up m (3 + r) a (cutL (m 11 r) v)) 0 7 (nI 0), jm_up (jm_up (jm_up (jm_up m (3 + r) a (cutL (m 11 r) v)) 0 7 (nI 0)) 220 (40 * r + a) (cutL (m 11 r) v)) 217 3 (nI 0), ?_, ?_, ?_⟩
        · show jm_R 12 md_X6_set 0 [.ref 0, .int (nI r), .int (nI a), .int v] [] _ = _
          simp only [e_X6_set_0, e_X6_set_1, e_X6_set_4, e_X6_set_7, e_X6_set_9, e_X6_set_10, e_X6_set_11, e_X6_set_14, e_X6_set_15, e_X6_set_18, e_X6_set_21, e_X6_set_22, e_X6_set_23, e_X6_set_26, e_X6_set_27, e_X6_set_28, e_X6_set_31, e_X6_set_32, e_X6_set_33, e_X6_set_34, e_X6_set_37, e_X6_set_40, e_X6_set_41, e_X6_set_42, e_X6_set_45, e_X6_set_46, e_X6_set_47, e_X6_set_48, e_X6_set_51, e_X6_set_52, e_X6_set_53, e_X6_set_54, e_X6_set_57, e_X6_set_60, k_X3_isRow, k_X3_isMissing h8, jm_bd_v, jm_bd_0, bv1, if_false, if_true, not_false_eq_true, not_true_eq_false, if_pos hr, if_neg e1, k_hasP h8 h5 h2 hab, k_X3_put h8 ha, k_X6_fine]
        · show jm_R 12 md_X7_set 0 [.ref 217, .int (nI r), .int (nI a), .int v] [] _ = _
          have s219 : jm_up (jm_up m (3 + r) a (cutL (m 11 r) v)) 0 7 (nI 0) 219 = m 219 := by rw [jupr (by decide), jupr (by omega)]
          have s218 : jm_up (jm_up m (3 + r) a (cutL (m 11 r) v)) 0 7 (nI 0) 218 = m 218 := by rw [jupr (by decide), jupr (by omega)]
          simp only [e_X7_set_0, e_X7_set_1, e_X7_set_4, e_X7_set_7, e_X7_set_9, e_X7_set_10, e_X7_set_11, e_X7_set_14, e_X7_set_15, e_X7_set_16, e_X7_set_19, e_X7_set_20, e_X7_set_21, e_X7_set_24, e_X7_set_25, e_X7_set_26, e_X7_set_27, e_X7_set_28, e_X7_set_29, e_X7_set_32, e_X7_set_33, e_X7_set_34, e_X7_set_35, e_X7_set_36, e_X7_set_37, e_X7_set_40, e_X7_set_43, e_X7_set_44, e_X7_set_45, e_X7_set_48, e_X7_set_49, e_X7_set_50, e_X7_set_53, e_X7_set_55, e_X7_set_56, e_X7_set_57, e_X7_set_58, e_X7_set_59, e_X7_set_60, e_X7_set_63, e_X7_set_64, e_X7_set_65, e_X7_set_66, e_X7_set_69, e_X7_set_70, e_X7_set_71, e_X7_set_72, e_X7_set_75, e_X7_set_77, e_X7_set_78, e_X7_set_79, e_X7_set_80, e_X7_set_81, e_X7_set_82, e_X7_set_85, isRow7, jm_bd_v, jm_bd_0, bv1, if_false, if_true, not_false_eq_true, not_true_eq_false, if_pos hr, h8, s219, s218, e2, lN_64 (show 0 < 2 ^ 31 by decide), k_X7_inI, h6, et, if_pos hi, nI_mulN, nI_add, h320, k_X7_asLane, ← hlane, jup_eq, k_X7_well]
        · rw [jup_comm (a := 0) (b := 220) (by decide)]
          refine Rel.st (hR.rows (fun x hx => ?_) (fun r' hr' => ?_)) (nI 0)
          · rw [jupr (by omega), jupr (by omega)]
          · rw [jupr (a' := 11) (by decide), jupr (a' := 11) (by omega), jupr (a' := 218) (by decide), jupr (a' := 218) (by omega), jupr (a' := 219) (by decide), jupr (a' := 219) (by omega), jupr (a' := 12) (by decide), jupr (a' := 12) (by omega), jupr (a' := 3 + r') (by omega)]
            rcases hR1 r' hr' with z | ⟨k', n', z1, z2, z3, z4, z5, z6, z7⟩
            · exact Or.inl z
            · refine Or.inr ⟨k', n', z1, z2, z3, z4, z5, z6, fun i' hi' => ?_⟩
              by_cases u : r' = r ∧ i' = a
              · obtain ⟨rfl, rfl⟩ := u
                rw [jup_eq, jup_eq]
              · rw [jup_ne (fun q => u ⟨by omega, q.2⟩), jup_ne (fun q => u (by omega)), jupr (by omega)]
                exact z7 i' hi'
      · have hi : ¬ (¬ i < nI 0 ∧ ¬ nI n ≤ i) := fun h => hp (by
          obtain ⟨a, ha, rfl⟩ := ix_of h (by omega)
          exact ⟨a, 1, rfl, rfl, by omega⟩)
        refine Api.fnd hR (nI 2) (r := .int (-1000010 - nI 2)) ?_ ?_
        · show jm_R 12 md_X6_set 0 [.ref 0, .int (nI r), .int i, .int v] [] _ = _
          simp only [e_X6_set_0, e_X6_set_1, e_X6_set_4, e_X6_set_7, e_X6_set_9, e_X6_set_10, e_X6_set_11, e_X6_set_14, e_X6_set_15, e_X6_set_18, e_X6_set_21, e_X6_set_22, e_X6_set_23, e_X6_set_26, e_X6_set_27, e_X6_set_28, e_X6_set_31, e_X6_set_32, e_X6_set_33, e_X6_set_34, e_X6_set_37, e_X6_set_40, e_X6_set_41, e_X6_set_42, e_X6_set_45, e_X6_set_46, e_X6_set_47, e_X6_set_48, e_X6_set_51, e_X6_set_52, e_X6_set_53, e_X6_set_54, e_X6_set_57, e_X6_set_60, k_X3_isRow, k_X3_isMissing h8, jm_bd_v, jm_bd_0, bv1, if_false, if_true, not_false_eq_true, not_true_eq_false, if_pos hr, if_neg e1, k_hasN h8 h5 h2 hp, k_X6_finding]
        · show jm_R 12 md_X7_set 0 [.ref 217, .int (nI r), .int i, .int v] [] _ = _
          simp only [e_X7_set_0, e_X7_set_1, e_X7_set_4, e_X7_set_7, e_X7_set_9, e_X7_set_10, e_X7_set_11, e_X7_set_14, e_X7_set_15, e_X7_set_16, e_X7_set_19, e_X7_set_20, e_X7_set_21, e_X7_set_24, e_X7_set_25, e_X7_set_26, e_X7_set_27, e_X7_set_28, e_X7_set_29, e_X7_set_32, e_X7_set_33, e_X7_set_34, e_X7_set_35, e_X7_set_36, e_X7_set_37, e_X7_set_40, e_X7_set_43, e_X7_set_44, e_X7_set_45, e_X7_set_48, e_X7_set_49, e_X7_set_50, e_X7_set_53, e_X7_set_55, e_X7_set_56, e_X7_set_57, e_X7_set_58, e_X7_set_59, e_X7_set_60, e_X7_set_63, e_X7_set_64, e_X7_set_65, e_X7_set_66, e_X7_set_69, e_X7_set_70, e_X7_set_71, e_X7_set_72, e_X7_set_75, e_X7_set_77, e_X7_set_78, e_X7_set_79, e_X7_set_80, e_X7_set_81, e_X7_set_82, e_X7_set_85, isRow7, jm_bd_v, jm_bd_0, bv1, if_false, if_true, not_false_eq_true, not_true_eq_false, if_pos hr, h8, jupr (show (219 : Nat) ≠ 0 by decide), e2, lN_64 (show 0 < 2 ^ 31 by decide), k_X7_inI, h6, et, if_neg hi, k_X7_find]
  · refine Api.bad hR (r := .int (-1000001)) ?_ ?_
    · show jm_R 12 md_X6_set 0 [.ref 0, .int r, .int i, .int v] [] _ = _
      simp only [e_X6_set_0, e_X6_set_1, e_X6_set_4, e_X6_set_7, e_X6_set_9, e_X6_set_10, e_X6_set_11, e_X6_set_14, e_X6_set_15, e_X6_set_18, e_X6_set_21, e_X6_set_22, e_X6_set_23, e_X6_set_26, e_X6_set_27, e_X6_set_28, e_X6_set_31, e_X6_set_32, e_X6_set_33, e_X6_set_34, e_X6_set_37, e_X6_set_40, e_X6_set_41, e_X6_set_42, e_X6_set_45, e_X6_set_46, e_X6_set_47, e_X6_set_48, e_X6_set_51, e_X6_set_52, e_X6_set_53, e_X6_set_54, e_X6_set_57, e_X6_set_60, k_X3_isRow, jm_bd_v, jm_bd_0, bv1, if_false, if_true, not_false_eq_true, not_true_eq_false, if_neg hr]
    · show jm_R 12 md_X7_set 0 [.ref 217, .int r, .int i, .int v] [] _ = _
      simp only [e_X7_set_0, e_X7_set_1, e_X7_set_4, e_X7_set_7, e_X7_set_9, e_X7_set_10, e_X7_set_11, e_X7_set_14, e_X7_set_15, e_X7_set_16, e_X7_set_19, e_X7_set_20, e_X7_set_21, e_X7_set_24, e_X7_set_25, e_X7_set_26, e_X7_set_27, e_X7_set_28, e_X7_set_29, e_X7_set_32, e_X7_set_33, e_X7_set_34, e_X7_set_35, e_X7_set_36, e_X7_set_37, e_X7_set_40, e_X7_set_43, e_X7_set_44, e_X7_set_45, e_X7_set_48, e_X7_set_49, e_X7_set_50, e_X7_set_53, e_X7_set_55, e_X7_set_56, e_X7_set_57, e_X7_set_58, e_X7_set_59, e_X7_set_60, e_X7_set_63, e_X7_set_64, e_X7_set_65, e_X7_set_66, e_X7_set_69, e_X7_set_70, e_X7_set_71, e_X7_set_72, e_X7_set_75, e_X7_set_77, e_X7_set_78, e_X7_set_79, e_X7_set_80, e_X7_set_81, e_X7_set_82, e_X7_set_85, isRow7, jm_bd_v, jm_bd_0, bv1, if_false, if_true, not_false_eq_true, not_true_eq_false, if_neg hr]
