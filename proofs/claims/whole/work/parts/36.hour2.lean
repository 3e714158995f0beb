/-! the reference's hour, and that both hours are one -/
def wayF (k p w : Int32) (sh : Bool) : Int32 :=
  if k = nI 1 then p * w / nI 2
  else if k = nI 2 then (if w = nI 0 then p * w / nI 2 else p * w / nI 2 + nI 1)
  else if k = nI 3 then (if w = nI 0 then nI 2 + p / nI 2 else nI 2)
  else if k = nI 4 then (if sh = true then p else nI 0)
  else (if nI 0 < (if sh = true then p else nI 0) - w then (if sh = true then p else nI 0) - w else nI 0)
def wayG (k p w : Int32) (dr : Int32) : Int32 :=
  if k = nI 2 then p * w / nI 2 + (if w = nI 0 then nI 0 else nI 1)
  else if k = nI 3 then nI 2 + (if w = nI 0 then p / nI 2 else nI 0)
  else if k = nI 4 then (if dr = nI 0 then nI 0 else p)
  else if k = nI 5 then (if (if dr = nI 0 then nI 0 else p) ≤ w then nI 0 else (if dr = nI 0 then nI 0 else p) - w)
  else p * w / nI 2
def wayH (k p w : Int32) (sh : Bool) : Int32 :=
  if k = nI 2 then p * w / nI 2 + (if w = nI 0 then nI 0 else nI 1)
  else if k = nI 3 then nI 2 + (if w = nI 0 then p / nI 2 else nI 0)
  else if k = nI 4 then (if sh = true then p else nI 0)
  else if k = nI 5 then (if (if sh = true then p else nI 0) ≤ w then nI 0 else (if sh = true then p else nI 0) - w)
  else p * w / nI 2
theorem wayG_H {k p w dr : Int32} {sh : Bool} (h : dr = nI 0 ↔ sh = false) : wayG k p w dr = wayH k p w sh := by
  unfold wayG wayH
  cases sh with
  | true => have q : ¬ dr = nI 0 := fun z => by cases h.mp z
            simp only [if_neg q, if_true]
  | false => have q : dr = nI 0 := h.mpr rfl
             simp only [if_pos q, Bool.false_eq_true, if_false]
set_option maxRecDepth 100000 in
theorem way_fin : ∀ k, k < 6 → 1 ≤ k → ∀ p, p < 10 → ∀ w, w < 4 → ∀ sh : Bool, wayH (nI k) (nI p) (nI w) sh = wayF (nI k) (nI p) (nI w) sh ∧ wayF (nI k) (nI p) (nI w) sh = nI (wayF (nI k) (nI p) (nI w) sh).toNatClampNeg ∧ (wayF (nI k) (nI p) (nI w) sh).toNatClampNeg ≤ 60 := by decide +kernel
theorem wayI_F {x : Nat → Nat → Int32} {j : Nat} {sh : Bool} : wayI x j sh = wayF (x 2 j) (x 5 j) (x 0 2) sh := rfl
theorem wayM_G {y : Nat → Int32} {j : Nat} {dr : Int32} : wayM y j dr = wayG (y (14 + j)) (y (26 + j)) (y 2) dr := rfl
/-- where a boat is behind an hour, as the reference has it -/
def ofM (y : Nat → Int32) (dr : Int32) (s : Bool) (j : Nat) : Int32 :=
  if nI 0 ≤ (if s = true then y (32 + j) - wayM y j dr else y (32 + j) + nI 1) then (if (if s = true then y (32 + j) - wayM y j dr else y (32 + j) + nI 1) ≤ y (20 + j) then (if s = true then y (32 + j) - wayM y j dr else y (32 + j) + nI 1) else y (20 + j)) else nI 0
def ofC (f t w : Int32) (s : Bool) : Int32 := if s = true then (if nI 0 < f - w then f - w else nI 0) else if t ≤ f then f else f + nI 1
def ofD (f t w : Int32) (s : Bool) : Int32 := if nI 0 ≤ (if s = true then f - w else f + nI 1) then (if (if s = true then f - w else f + nI 1) ≤ t then (if s = true then f - w else f + nI 1) else t) else nI 0
theorem of_eq {f t w : Nat} {s : Bool} (h1 : f ≤ t) (h2 : t ≤ 60) (h3 : w ≤ 60) : ofD (nI f) (nI t) (nI w) s = ofC (nI f) (nI t) (nI w) s ∧ ∃ g, g ≤ t ∧ ofC (nI f) (nI t) (nI w) s = nI g := by
  unfold ofD ofC
  cases s with
  | false =>
    simp only [Bool.false_eq_true, if_false, nI_add]
    rw [if_pos (nI_le (by omega) (by omega))]
    by_cases q : f + 1 ≤ t
    · rw [if_pos (nI_le q (by omega)), if_neg (nI_ge (by omega) (by omega))]
      exact ⟨rfl, f + 1, q, rfl⟩
    · have e : f = t := by omega
      rw [if_neg (nI_ge (by omega) (by omega)), if_pos (nI_le (by omega) (by omega)), e]
      exact ⟨rfl, t, Nat.le_refl _, rfl⟩
  | true =>
    simp only [if_true]
    by_cases q : w < f
    · rw [pk_sub (by omega), if_pos (nI_le (by omega) (by omega)), if_pos (nI_le (by omega) (by omega)), if_pos (nI_lt (by omega) (by omega))]
      exact ⟨rfl, f - w, by omega, rfl⟩
    · by_cases e : f = w
      · subst e
        rw [pk_sub (Nat.le_refl _), Nat.sub_self, if_pos (nI_le (Nat.le_refl _) (by decide)), if_pos (nI_le (Nat.zero_le _) (by omega)), if_neg (nI_nlt (Nat.le_refl _) (by decide))]
        exact ⟨rfl, 0, by omega, rfl⟩
      · have hneg : nI f - nI w < 0 := pk_sneg (by omega) (by omega)
        have hneg2 : ¬ nI 0 ≤ nI f - nI w := by
          rw [Int32.le_iff_toInt_le]
          rw [Int32.lt_iff_toInt_lt] at hneg
          have e1 : (nI 0).toInt = 0 := by decide
          have e2 : (0 : Int32).toInt = 0 := by decide
          omega
        have hneg3 : ¬ nI 0 < nI f - nI w := by
          rw [Int32.lt_iff_toInt_lt]
          rw [Int32.lt_iff_toInt_lt] at hneg
          have e1 : (nI 0).toInt = 0 := by decide
          have e2 : (0 : Int32).toInt = 0 := by decide
          omega
        rw [if_neg hneg2, if_neg hneg3]
        exact ⟨rfl, 0, by omega, rfl⟩
theorem ofM_D {y : Nat → Int32} {dr : Int32} {s : Bool} {j : Nat} : ofM y dr s j = ofD (y (32 + j)) (y (20 + j)) (wayM y j dr) s := rfl
theorem ofI_C {x : Nat → Nat → Int32} {sh : Bool} {j : Nat} : ofI x sh j = ofC (x 3 j) (x 4 j) (wayI x j sh) (sntI x j) := rfl
def sntM (y : Nat → Int32) (j : Nat) : Bool := decide ((y 6 >>> (nI j &&& 31)) &&& nI 1 = nI 1)
def yU (y f : Nat → Int32) (c : Nat) : Nat → Int32 := fun i => if 32 ≤ i ∧ i < 32 + c then f (i - 32) else y i
theorem yU_lo {y f : Nat → Int32} {c i : Nat} (h : i < 32) : yU y f c i = y i := if_neg (by omega)
theorem yU_hi {y f : Nat → Int32} {c i : Nat} (h : 32 + c ≤ i) : yU y f c i = y i := if_neg (by omega)
theorem yU_at {y f : Nat → Int32} {c j : Nat} (h : j < c) : yU y f c (32 + j) = f j := by
  unfold yU
  rw [if_pos (by omega), Nat.add_sub_cancel_left]
theorem yU_s {y f : Nat → Int32} {c : Nat} : upd (yU y f c) (32 + c) (f c) = yU y f (c + 1) := by
  funext i
  unfold upd yU
  by_cases q : i = 32 + c
  · subst q; simp
  · rw [if_neg q]
    by_cases z : 32 ≤ i ∧ i < 32 + c
    · rw [if_pos z, if_pos (by omega)]
    · rw [if_neg z, if_neg (by omega)]
theorem yU_0 {y f : Nat → Int32} : yU y f 0 = y := by
  funext i
  unfold yU
  rw [if_neg (by omega)]
section RM
variable {d : Nat} {m : Nat → Nat → Int32} {y f : Nat → Int32}
theorem lp_X7_oneHour {C N : Nat} {dr : Int32} (hp : ¬ y 0 = 0) (hC : y 3 = nI C) (hC6 : C ≤ 6) (hN : y 4 = nI N) (hN6 : N ≤ 6) (hdr : dryMs y (watM y (y 5)) C 0 (nI 0) = dr) : ∀ (k c : Nat) (l2 : Value), c + k = N → ∃ l2' : Value, jm_R (d + 3) md_X7_oneHour 2 [.ref 217, .int (nI c), l2] [] (jm_mk (wrA m 221 (yU y (fun j => ofM y dr (sntM y j) j) c))) = jm_R (d + 3) md_X7_oneHour 105 [.ref 217, .int (nI N), l2'] [] (jm_mk (wrA m 221 (yU y (fun j => ofM y dr (sntM y j) j) N))) := by
  intro k
  induction k with
  | zero =>
    intro c l2 hc
    have h1 : nI N ≤ nI c := nI_le (by omega) (by omega)
    have e : c = N := by omega
    refine ⟨l2, ?_⟩
    rw [e_X7_oneHour_2]
    simp only [e_X7_oneHour_3, e_X7_oneHour_4, e_X7_oneHour_7, e_X7_oneHour_8, e_X7_oneHour_9, wrA_at, show (4 : Nat) < 44 by decide, yU_lo (show 4 < 32 by decide), hN, h1, if_true]
    rw [e]
  | succ k ih =>
    intro c l2 hc
    have h1 : ¬ nI N ≤ nI c := nI_ge (by omega) (by omega)
    have h32 : 32 + c < 44 := by omega
    have h20 : 20 + c < 44 := by omega
    have h20' : 20 + c < 32 := by omega
    have hc6 : c < 6 := by omega
    have h10 : ¬ nI 1 = nI 0 := by decide
    obtain ⟨l2', ih⟩ := ih (c + 1) (.int (if sntM y c = true then y (32 + c) - wayM y c dr else y (32 + c) + nI 1)) (by omega)
    refine ⟨l2', ?_⟩
    generalize hF : (fun j => ofM y dr (sntM y j) j) = F at ih ⊢
    have hFc : F c = ofM y dr (sntM y c) c := by rw [← hF]
    rw [← ih, ← yU_s, hFc]
    have hw : ∀ (m : Nat → Nat → Int32), jm_K (d + 2) md_X7_wayOf [.ref 217, .int (nI c)] (jm_mk (wrA m 221 (yU y F c))) = some (some (.int (wayM y c dr)), jm_mk (wrA m 221 (yU y F c))) := by
      intro m
      have q := k_X7_wayOf (d := d) (m := m) (y := yU y F c) (C := C) (j := c) (by rw [yU_lo (by decide)]; exact hp) (by rw [yU_lo (by decide)]; exact hC) hC6 hc6
      have e1 : dryMs (yU y F c) (watM (yU y F c) (yU y F c 5)) C 0 (nI 0) = dr := by
        rw [← hdr]
        unfold dryMs watM
        rw [yU_lo (show 0 < 32 by decide), yU_lo (show 1 < 32 by decide), yU_lo (show 5 < 32 by decide)]
        exact dryL_congr (fun j h1 h2 => yU_lo (by omega))
      rw [e1] at q
      rw [q]
      unfold wayM
      rw [yU_lo (show 14 + c < 32 by omega), yU_lo (show 26 + c < 32 by omega), yU_lo (show 2 < 32 by decide)]
    rw [e_X7_oneHour_2]
    simp only [e_X7_oneHour_0, e_X7_oneHour_1, e_X7_oneHour_3, e_X7_oneHour_4, e_X7_oneHour_7, e_X7_oneHour_8, e_X7_oneHour_9, e_X7_oneHour_12, e_X7_oneHour_13, e_X7_oneHour_16, e_X7_oneHour_18, e_X7_oneHour_19, e_X7_oneHour_20, e_X7_oneHour_23, e_X7_oneHour_26, e_X7_oneHour_27, e_X7_oneHour_30, e_X7_oneHour_32, e_X7_oneHour_33, e_X7_oneHour_34, e_X7_oneHour_35, e_X7_oneHour_36, e_X7_oneHour_37, e_X7_oneHour_40, e_X7_oneHour_41, e_X7_oneHour_44, e_X7_oneHour_45, e_X7_oneHour_48, e_X7_oneHour_50, e_X7_oneHour_51, e_X7_oneHour_52, e_X7_oneHour_53, e_X7_oneHour_54, e_X7_oneHour_55, e_X7_oneHour_56, e_X7_oneHour_57, e_X7_oneHour_60, e_X7_oneHour_62, e_X7_oneHour_63, e_X7_oneHour_64, e_X7_oneHour_65, e_X7_oneHour_68, e_X7_oneHour_69, e_X7_oneHour_72, e_X7_oneHour_73, e_X7_oneHour_74, e_X7_oneHour_77, e_X7_oneHour_79, e_X7_oneHour_80, e_X7_oneHour_81, e_X7_oneHour_82, e_X7_oneHour_85, e_X7_oneHour_86, e_X7_oneHour_89, e_X7_oneHour_91, e_X7_oneHour_92, e_X7_oneHour_93, e_X7_oneHour_94, e_X7_oneHour_97, e_X7_oneHour_98, e_X7_oneHour_99, e_X7_oneHour_102, wrA_at, show (4 : Nat) < 44 by decide, show (6 : Nat) < 44 by decide, yU_lo (show 4 < 32 by decide), yU_lo (show 6 < 32 by decide), hN, h1, if_false, k_X7_has, jm_bd_v, nI_add, h32, h20, yU_hi (Nat.le_refl (32 + c)), yU_lo h20', hw, wrA_up]
    unfold ofM sntM
    by_cases q : (y 6 >>> (nI c &&& 31)) &&& nI 1 = nI 1
    · simp only [if_pos q, decide_eq_true q, if_true, h10, if_false]
      by_cases z : nI 0 ≤ y (32 + c) - wayM y c dr
      · by_cases v : y (32 + c) - wayM y c dr ≤ y (20 + c)
        · simp only [if_pos z, if_pos v]
        · simp only [if_pos z, if_neg v]
      · simp only [if_neg z]
    · simp only [if_neg q, decide_eq_false q, Bool.false_eq_true, if_true, if_false]
      by_cases z : nI 0 ≤ y (32 + c) + nI 1
      · by_cases v : y (32 + c) + nI 1 ≤ y (20 + c)
        · simp only [if_pos z, if_pos v]
        · simp only [if_pos z, if_neg v]
      · simp only [if_neg z]
end RM
