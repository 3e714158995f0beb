/-! the way of a boat, an hour -/
theorem nI2_ne : ¬ nI 2 = 0 := by decide
def sntI (x : Nat → Nat → Int32) (j : Nat) : Bool := decide ((x 0 7 >>> (nI j &&& 31)) &&& nI 1 = nI 1)
def wayI (x : Nat → Nat → Int32) (j : Nat) (sh : Bool) : Int32 :=
  if x 2 j = nI 1 then x 5 j * x 0 2 / nI 2
  else if x 2 j = nI 2 then (if x 0 2 = nI 0 then x 5 j * x 0 2 / nI 2 else x 5 j * x 0 2 / nI 2 + nI 1)
  else if x 2 j = nI 3 then (if x 0 2 = nI 0 then nI 2 + x 5 j / nI 2 else nI 2)
  else if x 2 j = nI 4 then (if sh = true then x 5 j else nI 0)
  else (if nI 0 < (if sh = true then x 5 j else nI 0) - x 0 2 then (if sh = true then x 5 j else nI 0) - x 0 2 else nI 0)
def frsL (f : Nat → Int32) : Nat → Nat → Option Nat
  | 0, _ => none
  | k + 1, c => if f c = nI 0 then some c else frsL f k (c + 1)
def ovI : Option Nat → Int32
  | none => -1
  | some b => nI b
def nxtI (f : Nat → Int32) (N : Nat) : Option Nat → Option Nat
  | none => frsL f N 0
  | some b => if f b = nI 0 then some b else frsL f N 0
theorem frsL_s {f : Nat → Int32} {k c : Nat} : frsL f (k + 1) c = if f c = nI 0 then some c else frsL f k (c + 1) := rfl
theorem frsL_lt {f : Nat → Int32} : ∀ {k c b : Nat}, frsL f k c = some b → c ≤ b ∧ b < c + k
  | 0, c, b, h => by cases h
  | k + 1, c, b, h => by
    rw [frsL_s] at h
    by_cases q : f c = nI 0
    · rw [if_pos q] at h; cases h; omega
    · rw [if_neg q] at h
      have := frsL_lt h
      omega
section IS
variable {d a : Nat} {m x : Nat → Nat → Int32}
theorem k_X2_snt (ha : jm_ia a = true) {j : Nat} : jm_K d md_X2_isSent [.ref a, .int (nI j)] (jm_mk (wrI m a x)) = some (some (.int (if sntI x j = true then nI 1 else nI 0)), jm_mk (wrI m a x)) := by
  rw [k_X2_isSent ha, wrI_0]
  simp only [sntI, decide_eq_true_eq]
theorem k_X2_wayOf (ha : jm_ia a = true) {j : Nat} {sh : Bool} (hj : j < 6) : jm_K (d + 1) md_X2_wayOf [.ref a, .int (nI j), .int (if sh = true then nI 1 else nI 0)] (jm_mk (wrI m a x)) = some (some (.int (wayI x j sh)), jm_mk (wrI m a x)) := by
  show jm_R (d + 1) md_X2_wayOf 0 [.ref a, .int (nI j), .int (if sh = true then nI 1 else nI 0), .null, .null] [] _ = _
  have h1 : ¬ nI 1 = nI 0 := by decide
  unfold wayI
  cases sh <;> simp only [e_X2_wayOf_0, e_X2_wayOf_1, e_X2_wayOf_4, e_X2_wayOf_5, e_X2_wayOf_6, e_X2_wayOf_7, e_X2_wayOf_10, e_X2_wayOf_11, e_X2_wayOf_12, e_X2_wayOf_13, e_X2_wayOf_14, e_X2_wayOf_15, e_X2_wayOf_18, e_X2_wayOf_19, e_X2_wayOf_22, e_X2_wayOf_23, e_X2_wayOf_24, e_X2_wayOf_27, e_X2_wayOf_28, e_X2_wayOf_30, e_X2_wayOf_31, e_X2_wayOf_34, e_X2_wayOf_35, e_X2_wayOf_36, e_X2_wayOf_68, e_X2_wayOf_69, e_X2_wayOf_70, e_X2_wayOf_71, e_X2_wayOf_74, e_X2_wayOf_77, e_X2_wayOf_78, e_X2_wayOf_81, e_X2_wayOf_82, e_X2_wayOf_83, e_X2_wayOf_84, e_X2_wayOf_85, e_X2_wayOf_86, e_X2_wayOf_89, e_X2_wayOf_92, e_X2_wayOf_93, e_X2_wayOf_94, e_X2_wayOf_97, e_X2_wayOf_98, e_X2_wayOf_99, e_X2_wayOf_100, e_X2_wayOf_101, e_X2_wayOf_102, e_X2_wayOf_105, e_X2_wayOf_106, e_X2_wayOf_107, e_X2_wayOf_109, e_X2_wayOf_110, e_X2_wayOf_111, e_X2_wayOf_113, e_X2_wayOf_114, e_X2_wayOf_117, e_X2_wayOf_118, e_X2_wayOf_121, ha, hj, wrI_0, wrI_2, wrI_5, nI2_ne, not_false_eq_true, if_true, if_false, h1, Bool.false_eq_true, reduceIte]
  · by_cases c1 : x 2 j = nI 1
    · simp only [if_pos c1]
    · by_cases c2 : x 2 j = nI 2
      · by_cases c5 : x 0 2 = nI 0
        · simp only [if_neg c1, if_pos c2, if_pos c5, if_neg (fun h : ¬ x 0 2 = nI 0 => h c5)]
        · simp only [if_neg c1, if_pos c2, if_neg c5, if_pos c5]
      · by_cases c3 : x 2 j = nI 3
        · by_cases c5 : x 0 2 = nI 0
          · simp only [if_neg c1, if_neg c2, if_pos c3, if_pos c5, if_neg (fun h : ¬ x 0 2 = nI 0 => h c5)]
          · simp only [if_neg c1, if_neg c2, if_pos c3, if_neg c5, if_pos c5]
        · by_cases c4 : x 2 j = nI 4
          · simp only [if_neg c1, if_neg c2, if_neg c3, if_pos c4]
          · simp only [if_neg c1, if_neg c2, if_neg c3, if_neg c4]
  · by_cases c1 : x 2 j = nI 1
    · simp only [if_pos c1]
    · by_cases c2 : x 2 j = nI 2
      · by_cases c5 : x 0 2 = nI 0
        · simp only [if_neg c1, if_pos c2, if_pos c5, if_neg (fun h : ¬ x 0 2 = nI 0 => h c5)]
        · simp only [if_neg c1, if_pos c2, if_neg c5, if_pos c5]
      · by_cases c3 : x 2 j = nI 3
        · by_cases c5 : x 0 2 = nI 0
          · simp only [if_neg c1, if_neg c2, if_pos c3, if_pos c5, if_neg (fun h : ¬ x 0 2 = nI 0 => h c5)]
          · simp only [if_neg c1, if_neg c2, if_pos c3, if_neg c5, if_pos c5]
        · by_cases c4 : x 2 j = nI 4
          · simp only [if_neg c1, if_neg c2, if_neg c3, if_pos c4]
          · simp only [if_neg c1, if_neg c2, if_neg c3, if_neg c4]
theorem lp_X2_next (ha : jm_ia a = true) {N : Nat} (hN : x 0 6 = nI N) (hN6 : N ≤ 6) : ∀ (k c : Nat), c + k = N → jm_R d md_X2_nextOwner 30 [.ref a, .int (nI c)] [] (jm_mk (wrI m a x)) = some (some (.int (ovI (frsL (x 3) k c))), jm_mk (wrI m a x)) := by
  intro k
  induction k with
  | zero =>
    intro c h
    have h1 : nI N ≤ nI c := nI_le (by omega) (by omega)
    rw [e_X2_nextOwner_30]
    simp only [e_X2_nextOwner_0, e_X2_nextOwner_1, e_X2_nextOwner_2, e_X2_nextOwner_5, e_X2_nextOwner_8, e_X2_nextOwner_11, e_X2_nextOwner_12, e_X2_nextOwner_15, e_X2_nextOwner_16, e_X2_nextOwner_19, e_X2_nextOwner_20, e_X2_nextOwner_23, e_X2_nextOwner_24, e_X2_nextOwner_27, e_X2_nextOwner_28, e_X2_nextOwner_29, e_X2_nextOwner_31, e_X2_nextOwner_32, e_X2_nextOwner_35, e_X2_nextOwner_38, e_X2_nextOwner_39, e_X2_nextOwner_42, e_X2_nextOwner_43, e_X2_nextOwner_44, e_X2_nextOwner_47, e_X2_nextOwner_48, e_X2_nextOwner_49, e_X2_nextOwner_52, e_X2_nextOwner_55, e_X2_nextOwner_56, ha, wrI_0, hN, h1, if_true]
    rfl
  | succ k ih =>
    intro c h
    have h1 : ¬ nI N ≤ nI c := nI_ge (by omega) (by omega)
    have h6 : c < 6 := by omega
    rw [e_X2_nextOwner_30]
    simp only [e_X2_nextOwner_0, e_X2_nextOwner_1, e_X2_nextOwner_2, e_X2_nextOwner_5, e_X2_nextOwner_8, e_X2_nextOwner_11, e_X2_nextOwner_12, e_X2_nextOwner_15, e_X2_nextOwner_16, e_X2_nextOwner_19, e_X2_nextOwner_20, e_X2_nextOwner_23, e_X2_nextOwner_24, e_X2_nextOwner_27, e_X2_nextOwner_28, e_X2_nextOwner_29, e_X2_nextOwner_31, e_X2_nextOwner_32, e_X2_nextOwner_35, e_X2_nextOwner_38, e_X2_nextOwner_39, e_X2_nextOwner_42, e_X2_nextOwner_43, e_X2_nextOwner_44, e_X2_nextOwner_47, e_X2_nextOwner_48, e_X2_nextOwner_49, e_X2_nextOwner_52, e_X2_nextOwner_55, e_X2_nextOwner_56, ha, wrI_0, wrI_3, hN, h1, h6, if_false, nI_add, ih (c + 1) (by omega)]
    rw [frsL_s]
    by_cases q : x 3 c = nI 0 <;> simp [q, ovI]
theorem k_X2_hasB (ha : jm_ia a = true) {N : Nat} (hN : x 0 6 = nI N) (hN6 : N ≤ 6) {o : Option Nat} (ho : ∀ b, o = some b → b < N) : jm_K d md_X2_hasBoat [.ref a, .int (ovI o)] (jm_mk (wrI m a x)) = some (some (.int (if o.isSome = true then nI 1 else nI 0)), jm_mk (wrI m a x)) := by
  rw [k_X2_hasBoat ha, wrI_0, hN]
  cases o with
  | none => rfl
  | some b =>
    have hb := ho b rfl
    have e1 : ¬ nI b < nI 0 := nI_nlt (by omega) (by omega)
    have e2 : ¬ nI N ≤ nI b := nI_ge hb (by omega)
    simp only [ovI, e1, e2, not_false_eq_true, and_self, if_true, Option.isSome_some]
theorem k_X2_nextOwner (ha : jm_ia a = true) {N : Nat} (hN : x 0 6 = nI N) (hN6 : N ≤ 6) {o : Option Nat} (ho : ∀ b, o = some b → b < N) (hx : x 0 4 = ovI o) : jm_K (d + 1) md_X2_nextOwner [.ref a] (jm_mk (wrI m a x)) = some (some (.int (ovI (nxtI (x 3) N o))), jm_mk (wrI m a x)) := by
  show jm_R (d + 1) md_X2_nextOwner 0 [.ref a, .null] [] _ = _
  have h1 : ¬ nI 1 = nI 0 := by decide
  have hlp := lp_X2_next (d := d + 1) (m := m) ha hN hN6 N 0 (by omega)
  simp only [e_X2_nextOwner_0, e_X2_nextOwner_1, e_X2_nextOwner_2, e_X2_nextOwner_5, e_X2_nextOwner_8, e_X2_nextOwner_11, e_X2_nextOwner_12, e_X2_nextOwner_15, e_X2_nextOwner_16, e_X2_nextOwner_19, e_X2_nextOwner_20, e_X2_nextOwner_23, e_X2_nextOwner_24, e_X2_nextOwner_27, e_X2_nextOwner_28, e_X2_nextOwner_29, e_X2_nextOwner_31, e_X2_nextOwner_32, e_X2_nextOwner_35, e_X2_nextOwner_38, e_X2_nextOwner_39, e_X2_nextOwner_42, e_X2_nextOwner_43, e_X2_nextOwner_44, e_X2_nextOwner_47, e_X2_nextOwner_48, e_X2_nextOwner_49, e_X2_nextOwner_52, e_X2_nextOwner_55, e_X2_nextOwner_56, ha, wrI_0, hx, k_X2_hasB ha hN hN6 ho, jm_bd_v]
  cases o with
  | none =>
    simp only [Option.isSome_none, Bool.false_eq_true, if_false, if_true, hlp]
    rfl
  | some b =>
    have hb6 : b < 6 := by have := ho b rfl; omega
    simp only [Option.isSome_some, if_true, h1, if_false, ovI, e_X2_nextOwner_0, e_X2_nextOwner_1, e_X2_nextOwner_2, e_X2_nextOwner_5, e_X2_nextOwner_8, e_X2_nextOwner_11, e_X2_nextOwner_12, e_X2_nextOwner_15, e_X2_nextOwner_16, e_X2_nextOwner_19, e_X2_nextOwner_20, e_X2_nextOwner_23, e_X2_nextOwner_24, e_X2_nextOwner_27, e_X2_nextOwner_28, e_X2_nextOwner_29, e_X2_nextOwner_31, e_X2_nextOwner_32, e_X2_nextOwner_35, e_X2_nextOwner_38, e_X2_nextOwner_39, e_X2_nextOwner_42, e_X2_nextOwner_43, e_X2_nextOwner_44, e_X2_nextOwner_47, e_X2_nextOwner_48, e_X2_nextOwner_49, e_X2_nextOwner_52, e_X2_nextOwner_55, e_X2_nextOwner_56, ha, hb6, wrI_0, wrI_3, hx, hlp, nxtI]
    by_cases q : x 3 b = nI 0 <;> simp only [q, not_true_eq_false, not_false_eq_true, if_true, if_false]
end IS
