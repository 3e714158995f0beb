/-! bits; the reference's hour -/
set_option maxRecDepth 100000 in
theorem or_bit : ∀ c, c < 6 → ∀ s, s < 64 → s < 2 ^ c → nI s ||| (nI 1 <<< (nI c &&& 31)) = nI (s + 2 ^ c) := by decide +kernel
set_option maxRecDepth 100000 in
theorem has_bit : ∀ t, t < 64 → ∀ b, b < 6 → (((nI t >>> (nI b &&& 31)) &&& nI 1 = nI 1) ↔ t.testBit b = true) := by decide +kernel
set_option maxRecDepth 100000 in
theorem add_bit : ∀ c, c < 6 → ∀ s, s < 64 → s < 2 ^ c → ∀ b, b < 6 → (s + 2 ^ c).testBit b = (decide (b = c) || s.testBit b) := by decide +kernel
theorem pow_le {c : Nat} (h : c ≤ 6) : 2 ^ c ≤ 64 := Nat.pow_le_pow_right (n := 2) (by decide) h
def thrN (f : Nat → Int32) : Nat → Nat → Nat → Nat
  | 0, _, s => s
  | k + 1, c, s => thrN f k (c + 1) (if f c = nI 0 then s + 2 ^ c else s)
theorem thr_nI {f : Nat → Int32} : ∀ (k c s : Nat), c + k ≤ 6 → s < 2 ^ c → thrL f k c (nI s) = nI (thrN f k c s) ∧ thrN f k c s < 2 ^ (c + k)
  | 0, c, s, h, hs => ⟨rfl, hs⟩
  | k + 1, c, s, h, hs => by
    have h2 : 2 ^ (c + 1) = 2 ^ c + 2 ^ c := by rw [Nat.pow_succ]; omega
    have h3 := pow_le (show c ≤ 6 by omega)
    rw [thrL_s]
    show _ = nI (thrN f k (c + 1) (if f c = nI 0 then s + 2 ^ c else s)) ∧ thrN f k (c + 1) (if f c = nI 0 then s + 2 ^ c else s) < _
    rw [show c + (k + 1) = c + 1 + k by omega]
    by_cases q : f c = nI 0
    · rw [if_pos q, if_pos q, or_bit c (by omega) s (by omega) hs]
      exact thr_nI k (c + 1) (s + 2 ^ c) (by omega) (by omega)
    · rw [if_neg q, if_neg q]
      exact thr_nI k (c + 1) s (by omega) (by omega)
theorem thr_bit {f : Nat → Int32} : ∀ (k c s : Nat), c + k ≤ 6 → s < 2 ^ c → ∀ b, b < 6 → ((thrN f k c s).testBit b = true ↔ s.testBit b = true ∨ (c ≤ b ∧ b < c + k ∧ f b = nI 0))
  | 0, c, s, h, hs, b, hb => by
    show s.testBit b = true ↔ _
    constructor
    · exact Or.inl
    · rintro (q | q)
      · exact q
      · omega
  | k + 1, c, s, h, hs, b, hb => by
    have h2 : 2 ^ (c + 1) = 2 ^ c + 2 ^ c := by rw [Nat.pow_succ]; omega
    have h3 := pow_le (show c ≤ 6 by omega)
    show (thrN f k (c + 1) (if f c = nI 0 then s + 2 ^ c else s)).testBit b = true ↔ _
    by_cases q : f c = nI 0
    · rw [if_pos q, thr_bit k (c + 1) (s + 2 ^ c) (by omega) (by omega) b hb, add_bit c (by omega) s (by omega) hs b hb]
      simp only [Bool.or_eq_true, decide_eq_true_eq]
      constructor
      · rintro ((rfl | z) | ⟨z1, z2, z3⟩)
        · exact Or.inr ⟨Nat.le_refl _, by omega, q⟩
        · exact Or.inl z
        · exact Or.inr ⟨by omega, by omega, z3⟩
      · rintro (z | ⟨z1, z2, z3⟩)
        · exact Or.inl (Or.inr z)
        · by_cases y : b = c
          · exact Or.inl (Or.inl y)
          · exact Or.inr ⟨by omega, by omega, z3⟩
    · rw [if_neg q, thr_bit k (c + 1) s (by omega) (by omega) b hb]
      constructor
      · rintro (z | ⟨z1, z2, z3⟩)
        · exact Or.inl z
        · exact Or.inr ⟨by omega, by omega, z3⟩
      · rintro (z | ⟨z1, z2, z3⟩)
        · exact Or.inl z
        · by_cases y : b = c
          · subst y; exact absurd z3 q
          · exact Or.inr ⟨by omega, by omega, z3⟩
theorem frsL_none {f : Nat → Int32} : ∀ {k c : Nat}, frsL f k c = none → ∀ j, c ≤ j → j < c + k → ¬ f j = nI 0
  | 0, c, h, j, h1, h2 => by omega
  | k + 1, c, h, j, h1, h2 => by
    rw [frsL_s] at h
    by_cases q : f c = nI 0
    · rw [if_pos q] at h; cases h
    · rw [if_neg q] at h
      by_cases z : j = c
      · subst z; exact q
      · exact frsL_none h j (by omega) (by omega)
theorem frsL_some {f : Nat → Int32} : ∀ {k c b : Nat}, frsL f k c = some b → f b = nI 0 ∧ ∀ j, c ≤ j → j < b → ¬ f j = nI 0
  | 0, c, b, h => by cases h
  | k + 1, c, b, h => by
    rw [frsL_s] at h
    by_cases q : f c = nI 0
    · rw [if_pos q] at h; cases h; exact ⟨q, fun j h1 h2 => by omega⟩
    · rw [if_neg q] at h
      obtain ⟨h1, h2⟩ := frsL_some h
      refine ⟨h1, fun j h3 h4 => ?_⟩
      by_cases z : j = c
      · subst z; exact q
      · exact h2 j (by omega) h4
theorem lp_X7_leastOf {d t b : Nat} {m : Nat → Nat → Int32} (ht : t < 64) (hb : b < 6) (h1 : t.testBit b = true) (h2 : ∀ j, j < b → ¬ t.testBit j = true) : ∀ (k c : Nat), c + k = b → jm_R (d + 1) md_X7_leastOf 2 [.int (nI t), .int (nI c)] [] (jm_mk m) = some (some (.int (nI b)), jm_mk m) := by
  have h10 : ¬ nI 1 = nI 0 := by decide
  intro k
  induction k with
  | zero =>
    intro c hc
    have e : c = b := by omega
    subst e
    rw [e_X7_leastOf_2]
    simp only [e_X7_leastOf_0, e_X7_leastOf_1, e_X7_leastOf_3, e_X7_leastOf_4, e_X7_leastOf_7, e_X7_leastOf_10, e_X7_leastOf_13, e_X7_leastOf_16, e_X7_leastOf_17, k_X7_has, jm_bd_v, has_bit t ht c hb, h1, if_true, h10, not_false_eq_true]
  | succ k ih =>
    intro c hc
    have e := h2 c (by omega)
    rw [e_X7_leastOf_2]
    simp only [e_X7_leastOf_0, e_X7_leastOf_1, e_X7_leastOf_3, e_X7_leastOf_4, e_X7_leastOf_7, e_X7_leastOf_10, e_X7_leastOf_13, e_X7_leastOf_16, e_X7_leastOf_17, k_X7_has, jm_bd_v, has_bit t ht c (by omega), e, if_false, not_true_eq_false, nI_add, Bool.false_eq_true]
    exact ih (c + 1) (by omega)
theorem k_X7_leastOf {d t b : Nat} {m : Nat → Nat → Int32} (ht : t < 64) (hb : b < 6) (h1 : t.testBit b = true) (h2 : ∀ j, j < b → ¬ t.testBit j = true) : jm_K (d + 1) md_X7_leastOf [.int (nI t)] (jm_mk m) = some (some (.int (nI b)), jm_mk m) := by
  show jm_R (d + 1) md_X7_leastOf 0 [.int (nI t), .null] [] _ = _
  simp only [e_X7_leastOf_0, e_X7_leastOf_1, e_X7_leastOf_3, e_X7_leastOf_4, e_X7_leastOf_7, e_X7_leastOf_10, e_X7_leastOf_13, e_X7_leastOf_16, e_X7_leastOf_17]
  exact lp_X7_leastOf ht hb h1 h2 b 0 (by omega)
theorem dryL_congr {h h' : Nat → Int32} {w : Int32} : ∀ {k c : Nat} {s : Int32}, (∀ j, c ≤ j → j < c + k → h j = h' j) → dryL h w k c s = dryL h' w k c s
  | 0, c, s, _ => rfl
  | k + 1, c, s, e => by
    rw [dryL_s, dryL_s, e c (Nat.le_refl _) (by omega)]
    exact dryL_congr (fun j h1 h2 => e j (by omega) (by omega))
theorem shwL_congr {h h' : Nat → Int32} {w : Int32} : ∀ {k c : Nat}, (∀ j, c ≤ j → j < c + k → h j = h' j) → shwL h w k c = shwL h' w k c
  | 0, c, _ => rfl
  | k + 1, c, e => by
    rw [shwL_s, shwL_s, e c (Nat.le_refl _) (by omega), shwL_congr (fun j h1 h2 => e j (by omega) (by omega))]
theorem frsL_congr {f g : Nat → Int32} : ∀ {k c : Nat}, (∀ j, c ≤ j → j < c + k → f j = g j) → frsL f k c = frsL g k c
  | 0, c, _ => rfl
  | k + 1, c, e => by
    rw [frsL_s, frsL_s, e c (Nat.le_refl _) (by omega), frsL_congr (fun j h1 h2 => e j (by omega) (by omega))]
theorem or_bit_ne {s : Int32} {c : Nat} (h : c < 6) : ¬ s ||| (nI 1 <<< (nI c &&& 31)) = nI 0 := by
  intro e
  have e1 : nI 1 <<< (nI c &&& 31) = nI (2 ^ c) := by
    have := or_bit c h 0 (by decide) (Nat.two_pow_pos c)
    rw [Nat.zero_add] at this
    rw [← this]
    show _ = 0 ||| _
    exact Int32.zero_or.symm
  rw [e1] at e
  have e2 : (s ||| nI (2 ^ c)) &&& nI (2 ^ c) = nI (2 ^ c) := by
    apply Int32.toBitVec_inj.mp
    rw [Int32.toBitVec_and, Int32.toBitVec_or]
    ext i hi
    simp only [BitVec.getElem_and, BitVec.getElem_or]
    cases s.toBitVec[i] <;> cases (nI (2 ^ c)).toBitVec[i] <;> rfl
  rw [e] at e2
  have e3 : ∀ c, c < 6 → ¬ nI 0 &&& nI (2 ^ c) = nI (2 ^ c) := by decide +kernel
  exact e3 c h e2
theorem dry_shw {h : Nat → Int32} {w : Int32} : ∀ {k c : Nat} {s : Int32}, c + k ≤ 6 → (dryL h w k c s = nI 0 ↔ s = nI 0 ∧ shwL h w k c = false)
  | 0, c, s, _ => by
    show s = nI 0 ↔ s = nI 0 ∧ false = false
    simp
  | k + 1, c, s, hk => by
    rw [dryL_s, shwL_s, dry_shw (by omega)]
    by_cases q : h c ≤ w
    · rw [if_pos q, if_pos q]
    · rw [if_neg q, if_neg q]
      constructor
      · rintro ⟨z, -⟩
        exact absurd z (or_bit_ne (by omega))
      · rintro ⟨-, z⟩
        cases z
