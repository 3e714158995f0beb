/-! an hour passes -/
def ofI (x : Nat → Nat → Int32) (sh : Bool) (j : Nat) : Int32 := if sntI x j = true then (if nI 0 < x 3 j - wayI x j sh then x 3 j - wayI x j sh else nI 0) else if x 4 j ≤ x 3 j then x 3 j else x 3 j + nI 1
def ofU (x : Nat → Nat → Int32) (sh : Bool) (c : Nat) : Nat → Nat → Int32 := fun r j => if r = 3 ∧ j < c then ofI x sh j else x r j
theorem ofU_ne {x : Nat → Nat → Int32} {sh : Bool} {c r : Nat} (h : r ≠ 3) : ofU x sh c r = x r := by
  funext j
  unfold ofU
  rw [if_neg (fun q => h q.1)]
theorem ofU_ge {x : Nat → Nat → Int32} {sh : Bool} {c j : Nat} (h : c ≤ j) : ofU x sh c 3 j = x 3 j := by
  unfold ofU
  rw [if_neg (by omega)]
theorem ofU_lt {x : Nat → Nat → Int32} {sh : Bool} {c j : Nat} (h : j < c) : ofU x sh c 3 j = ofI x sh j := by
  unfold ofU
  rw [if_pos ⟨rfl, h⟩]
theorem ofU_0 {x : Nat → Nat → Int32} {sh : Bool} : ofU x sh 0 = x := by
  funext r j
  unfold ofU
  rw [if_neg (by omega)]
theorem ofU_s {x : Nat → Nat → Int32} {sh : Bool} {c : Nat} : jm_up (ofU x sh c) 3 c (ofI x sh c) = ofU x sh (c + 1) := by
  funext r j
  unfold jm_up ofU
  by_cases q : r = 3
  · subst q
    by_cases z : j = c
    · subst z; simp
    · by_cases y : j < c
      · rw [if_neg (fun h => z h.2), if_pos ⟨rfl, y⟩, if_pos ⟨rfl, by omega⟩]
      · rw [if_neg (fun h => z h.2), if_neg (by omega), if_neg (by omega)]
  · rw [if_neg (fun h => q h.1), if_neg (fun h => q h.1), if_neg (fun h => q h.1)]
theorem jm_up_id {x : Nat → Nat → Int32} {r c : Nat} {v : Int32} (h : x r c = v) : jm_up x r c v = x := by
  funext r' j
  unfold jm_up
  by_cases q : r' = r ∧ j = c
  · rw [if_pos q, q.1, q.2, h]
  · rw [if_neg q]
def hldI (y : Nat → Nat → Int32) : Option Nat → Nat → Nat → Int32
  | none => y
  | some b => jm_up y 6 b (y 6 b + nI 1)
def nwoI (x : Nat → Nat → Int32) (N : Nat) (sh : Bool) (o : Option Nat) : Option Nat := if sh = true then nxtI (ofU x sh N 3) N o else none
def pasI (x : Nat → Nat → Int32) (N : Nat) (sh : Bool) (o : Option Nat) : Nat → Nat → Int32 := jm_up (hldI (jm_up (ofU x sh N) 0 4 (ovI (nwoI x N sh o))) (nwoI x N sh o)) 0 3 (x 0 3 + nI 1)
theorem nxtI_lt {f : Nat → Int32} {N : Nat} {o : Option Nat} (ho : ∀ b, o = some b → b < N) : ∀ b, nxtI f N o = some b → b < N := by
  intro b h
  have hf : ∀ {b}, frsL f N 0 = some b → b < N := fun h => by have := frsL_lt h; omega
  cases o with
  | none => exact hf h
  | some c =>
    change (if f c = nI 0 then some c else frsL f N 0) = some b at h
    by_cases q : f c = nI 0
    · rw [if_pos q] at h; cases h; exact ho _ rfl
    · rw [if_neg q] at h; exact hf h
section IS
variable {d a : Nat} {m x : Nat → Nat → Int32}
theorem lp_X2_pass (ha : jm_ia a = true) {N : Nat} {sh : Bool} (hN : x 0 6 = nI N) (hN6 : N ≤ 6) : ∀ (k c : Nat), c + k = N → jm_R (d + 2) md_X2_pass 8 [.ref a, .int (if sh = true then nI 1 else nI 0), .int (nI c)] [] (jm_mk (wrI m a (ofU x sh c))) = jm_R (d + 2) md_X2_pass 81 [.ref a, .int (if sh = true then nI 1 else nI 0), .int (nI N)] [] (jm_mk (wrI m a (ofU x sh N))) := by
  intro k
  induction k with
  | zero =>
    intro c h
    have h1 : nI N ≤ nI c := nI_le (by omega) (by omega)
    have h2 : c = N := by omega
    rw [e_X2_pass_8]
    simp only [e_X2_pass_9, e_X2_pass_10, e_X2_pass_13, ha, wrI_0, ofU_ne (show (0 : Nat) ≠ 3 by decide), hN, h1, if_true]
    rw [h2]
  | succ k ih =>
    intro c h
    have h1 : ¬ nI N ≤ nI c := nI_ge (by omega) (by omega)
    have h6 : c < 6 := by omega
    have h10 : ¬ nI 1 = nI 0 := by decide
    rw [e_X2_pass_8]
    simp only [e_X2_pass_0, e_X2_pass_1, e_X2_pass_2, e_X2_pass_5, e_X2_pass_6, e_X2_pass_7, e_X2_pass_9, e_X2_pass_10, e_X2_pass_13, e_X2_pass_16, e_X2_pass_17, e_X2_pass_18, e_X2_pass_21, e_X2_pass_24, e_X2_pass_25, e_X2_pass_28, e_X2_pass_29, e_X2_pass_30, e_X2_pass_31, e_X2_pass_34, e_X2_pass_35, e_X2_pass_36, e_X2_pass_37, e_X2_pass_38, e_X2_pass_39, e_X2_pass_42, e_X2_pass_43, e_X2_pass_46, e_X2_pass_47, e_X2_pass_50, e_X2_pass_51, e_X2_pass_54, e_X2_pass_55, e_X2_pass_56, e_X2_pass_57, e_X2_pass_60, e_X2_pass_61, e_X2_pass_62, e_X2_pass_65, e_X2_pass_66, e_X2_pass_69, e_X2_pass_70, e_X2_pass_71, e_X2_pass_72, e_X2_pass_73, e_X2_pass_74, e_X2_pass_75, e_X2_pass_78, ha, wrI_0, wrI_3, wrI_4, ofU_ne (show (0 : Nat) ≠ 3 by decide), ofU_ne (show (4 : Nat) ≠ 3 by decide), hN, h1, if_false, k_X2_snt ha, jm_bd_v, h6, k_X2_wayOf ha h6, ofU_ge (Nat.le_refl c), nI_add, wrI_u3]
    have es : sntI (ofU x sh c) c = sntI x c := by unfold sntI; rw [ofU_ne (show (0 : Nat) ≠ 3 by decide)]
    have ew : wayI (ofU x sh c) c sh = wayI x c sh := by unfold wayI; rw [ofU_ne (show (0 : Nat) ≠ 3 by decide), ofU_ne (show (2 : Nat) ≠ 3 by decide), ofU_ne (show (5 : Nat) ≠ 3 by decide)]
    rw [es, ew]
    by_cases q : sntI x c = true
    · have eo : ofI x sh c = if nI 0 < x 3 c - wayI x c sh then x 3 c - wayI x c sh else nI 0 := by unfold ofI; rw [if_pos q]
      rw [← eo, ofU_s, ih (c + 1) (by omega)]
      simp only [q, if_true, h10, if_false]
    · by_cases z : x 4 c ≤ x 3 c
      · have eo : ofI x sh c = x 3 c := by unfold ofI; rw [if_neg q, if_pos z]
        have e2 : ofU x sh c = ofU x sh (c + 1) := by rw [← ofU_s, jm_up_id]; rw [ofU_ge (Nat.le_refl c), eo]
        rw [e2, ih (c + 1) (by omega)]
        simp only [q, z, if_true, if_false, Bool.false_eq_true]
      · have eo : ofI x sh c = x 3 c + nI 1 := by unfold ofI; rw [if_neg q, if_neg z]
        simp only [q, z, if_true, if_false, Bool.false_eq_true]
        rw [← eo, ofU_s, ih (c + 1) (by omega)]
theorem k_X2_pass (ha : jm_ia a = true) {C N : Nat} {o : Option Nat} (hC : x 0 5 = nI C) (hC6 : C ≤ 6) (hN : x 0 6 = nI N) (hN6 : N ≤ 6) (hp : ¬ x 0 0 = 0) (hp2 : nI 1 ≤ x 0 0) (ho : ∀ b, o = some b → b < N) (hx : x 0 4 = ovI o) : jm_K (d + 2) md_X2_pass [.ref a] (jm_mk (wrI m a x)) = some (none, jm_mk (wrI m a (pasI x N (shwL (x 1) (watI x (nI 0)) C 0) o))) := by
  show jm_R (d + 2) md_X2_pass 0 [.ref a, .null, .null] [] _ = _
  have h10 : ¬ nI 1 = nI 0 := by decide
  generalize hsh : shwL (x 1) (watI x (nI 0)) C 0 = sh
  have hs := k_X2_shows (d := d) (m := m) (k := nI 0) ha hC hC6 hp hp2
  rw [hsh] at hs
  simp only [e_X2_pass_0, e_X2_pass_1, e_X2_pass_2, e_X2_pass_5, e_X2_pass_6, e_X2_pass_7, ha, hs, jm_bd_v]
  have hl := lp_X2_pass (d := d) (m := m) (sh := sh) ha hN hN6 N 0 (by omega)
  rw [ofU_0] at hl
  rw [hl]
  have hno := k_X2_nextOwner (d := d) (m := m) (x := ofU x sh N) ha (N := N) (by rw [ofU_ne (by decide)]; exact hN) hN6 ho (by rw [ofU_ne (by decide)]; exact hx)
  unfold pasI
  cases sh with
  | false =>
    simp only [e_X2_pass_0, e_X2_pass_1, e_X2_pass_2, e_X2_pass_5, e_X2_pass_6, e_X2_pass_7, e_X2_pass_9, e_X2_pass_10, e_X2_pass_13, e_X2_pass_16, e_X2_pass_17, e_X2_pass_18, e_X2_pass_21, e_X2_pass_24, e_X2_pass_25, e_X2_pass_28, e_X2_pass_29, e_X2_pass_30, e_X2_pass_31, e_X2_pass_34, e_X2_pass_35, e_X2_pass_36, e_X2_pass_37, e_X2_pass_38, e_X2_pass_39, e_X2_pass_42, e_X2_pass_43, e_X2_pass_46, e_X2_pass_47, e_X2_pass_50, e_X2_pass_51, e_X2_pass_54, e_X2_pass_55, e_X2_pass_56, e_X2_pass_57, e_X2_pass_60, e_X2_pass_61, e_X2_pass_62, e_X2_pass_65, e_X2_pass_66, e_X2_pass_69, e_X2_pass_70, e_X2_pass_71, e_X2_pass_72, e_X2_pass_73, e_X2_pass_74, e_X2_pass_75, e_X2_pass_78, e_X2_pass_81, e_X2_pass_82, e_X2_pass_83, e_X2_pass_86, e_X2_pass_87, e_X2_pass_90, e_X2_pass_93, e_X2_pass_94, e_X2_pass_97, e_X2_pass_98, e_X2_pass_101, e_X2_pass_102, e_X2_pass_105, e_X2_pass_106, e_X2_pass_109, e_X2_pass_110, e_X2_pass_113, e_X2_pass_114, e_X2_pass_115, e_X2_pass_116, e_X2_pass_117, e_X2_pass_118, e_X2_pass_119, e_X2_pass_120, e_X2_pass_123, e_X2_pass_124, e_X2_pass_125, e_X2_pass_128, ha, Bool.false_eq_true, if_false, if_true, wrI_u0, wrI_0, nwoI, ovI, hldI]
    have e1 : jm_up (ofU x false N) 0 4 (-1) 0 4 = -1 := by unfold jm_up; simp
    have e2 : jm_up (ofU x false N) 0 4 (-1) 0 3 = x 0 3 := by unfold jm_up; simp [ofU_ne (show (0 : Nat) ≠ 3 by decide)]
    simp only [e1, e2, if_true]
  | true =>
    simp only [e_X2_pass_0, e_X2_pass_1, e_X2_pass_2, e_X2_pass_5, e_X2_pass_6, e_X2_pass_7, e_X2_pass_9, e_X2_pass_10, e_X2_pass_13, e_X2_pass_16, e_X2_pass_17, e_X2_pass_18, e_X2_pass_21, e_X2_pass_24, e_X2_pass_25, e_X2_pass_28, e_X2_pass_29, e_X2_pass_30, e_X2_pass_31, e_X2_pass_34, e_X2_pass_35, e_X2_pass_36, e_X2_pass_37, e_X2_pass_38, e_X2_pass_39, e_X2_pass_42, e_X2_pass_43, e_X2_pass_46, e_X2_pass_47, e_X2_pass_50, e_X2_pass_51, e_X2_pass_54, e_X2_pass_55, e_X2_pass_56, e_X2_pass_57, e_X2_pass_60, e_X2_pass_61, e_X2_pass_62, e_X2_pass_65, e_X2_pass_66, e_X2_pass_69, e_X2_pass_70, e_X2_pass_71, e_X2_pass_72, e_X2_pass_73, e_X2_pass_74, e_X2_pass_75, e_X2_pass_78, e_X2_pass_81, e_X2_pass_82, e_X2_pass_83, e_X2_pass_86, e_X2_pass_87, e_X2_pass_90, e_X2_pass_93, e_X2_pass_94, e_X2_pass_97, e_X2_pass_98, e_X2_pass_101, e_X2_pass_102, e_X2_pass_105, e_X2_pass_106, e_X2_pass_109, e_X2_pass_110, e_X2_pass_113, e_X2_pass_114, e_X2_pass_115, e_X2_pass_116, e_X2_pass_117, e_X2_pass_118, e_X2_pass_119, e_X2_pass_120, e_X2_pass_123, e_X2_pass_124, e_X2_pass_125, e_X2_pass_128, ha, if_true, h10, if_false, hno, jm_bd_v, wrI_u0, wrI_0, nwoI]
    cases hn : nxtI (ofU x true N 3) N o with
    | none =>
      have e1 : jm_up (ofU x true N) 0 4 (-1) 0 4 = -1 := by unfold jm_up; simp
      have e2 : jm_up (ofU x true N) 0 4 (-1) 0 3 = x 0 3 := by unfold jm_up; simp [ofU_ne (show (0 : Nat) ≠ 3 by decide)]
      simp only [ovI, hldI, e1, e2, if_true]
    | some b =>
      have hb := nxtI_lt ho b hn
      have hb6 : b < 6 := by omega
      have hbn : ¬ nI b = -1 := fun h => by
        have h2 := congrArg Int32.toInt h
        rw [nI_toInt (by omega)] at h2
        have h3 : (-1 : Int32).toInt = -1 := by decide
        omega
      have e1 : jm_up (ofU x true N) 0 4 (nI b) 0 4 = nI b := by unfold jm_up; simp
      simp only [ovI, hldI, e1, hbn, if_false, e_X2_pass_0, e_X2_pass_1, e_X2_pass_2, e_X2_pass_5, e_X2_pass_6, e_X2_pass_7, e_X2_pass_9, e_X2_pass_10, e_X2_pass_13, e_X2_pass_16, e_X2_pass_17, e_X2_pass_18, e_X2_pass_21, e_X2_pass_24, e_X2_pass_25, e_X2_pass_28, e_X2_pass_29, e_X2_pass_30, e_X2_pass_31, e_X2_pass_34, e_X2_pass_35, e_X2_pass_36, e_X2_pass_37, e_X2_pass_38, e_X2_pass_39, e_X2_pass_42, e_X2_pass_43, e_X2_pass_46, e_X2_pass_47, e_X2_pass_50, e_X2_pass_51, e_X2_pass_54, e_X2_pass_55, e_X2_pass_56, e_X2_pass_57, e_X2_pass_60, e_X2_pass_61, e_X2_pass_62, e_X2_pass_65, e_X2_pass_66, e_X2_pass_69, e_X2_pass_70, e_X2_pass_71, e_X2_pass_72, e_X2_pass_73, e_X2_pass_74, e_X2_pass_75, e_X2_pass_78, e_X2_pass_81, e_X2_pass_82, e_X2_pass_83, e_X2_pass_86, e_X2_pass_87, e_X2_pass_90, e_X2_pass_93, e_X2_pass_94, e_X2_pass_97, e_X2_pass_98, e_X2_pass_101, e_X2_pass_102, e_X2_pass_105, e_X2_pass_106, e_X2_pass_109, e_X2_pass_110, e_X2_pass_113, e_X2_pass_114, e_X2_pass_115, e_X2_pass_116, e_X2_pass_117, e_X2_pass_118, e_X2_pass_119, e_X2_pass_120, e_X2_pass_123, e_X2_pass_124, e_X2_pass_125, e_X2_pass_128, ha, hb6, wrI_0, wrI_6, wrI_u6, wrI_u0]
      have e2 : jm_up (jm_up (ofU x true N) 0 4 (nI b)) 6 b (jm_up (ofU x true N) 0 4 (nI b) 6 b + nI 1) 0 3 = x 0 3 := by unfold jm_up; simp [ofU_ne (show (0 : Nat) ≠ 3 by decide)]
      simp only [e2]
end IS
