/-! an isle in the memory -/
def wrI (m : Nat → Nat → Int32) (a : Nat) (x : Nat → Nat → Int32) : Nat → Nat → Int32 := fun a' j => if a ≤ a' ∧ a' < a + 7 then x (a' - a) j else m a' j
def vwI (m : Nat → Nat → Int32) (a : Nat) : Nat → Nat → Int32 := fun r j => m (a + r) j
def djI (a b : Nat) : Prop := a + 7 ≤ b ∨ b + 7 ≤ a
section WI
variable {m : Nat → Nat → Int32} {a b : Nat} {x : Nat → Nat → Int32} {j : Nat} {v : Int32}
theorem wrI_r (r : Nat) (h : r < 7) : wrI m a x (a + r) j = x r j := by
  unfold wrI
  rw [if_pos (by omega), Nat.add_sub_cancel_left]
theorem wrI_0 : wrI m a x a j = x 0 j := wrI_r 0 (by decide)
theorem wrI_1 : wrI m a x (a + 1) j = x 1 j := wrI_r 1 (by decide)
theorem wrI_2 : wrI m a x (a + 2) j = x 2 j := wrI_r 2 (by decide)
theorem wrI_3 : wrI m a x (a + 3) j = x 3 j := wrI_r 3 (by decide)
theorem wrI_4 : wrI m a x (a + 4) j = x 4 j := wrI_r 4 (by decide)
theorem wrI_5 : wrI m a x (a + 5) j = x 5 j := wrI_r 5 (by decide)
theorem wrI_6 : wrI m a x (a + 6) j = x 6 j := wrI_r 6 (by decide)
theorem wrI_up (r : Nat) (h : r < 7) : jm_up (wrI m a x) (a + r) j v = wrI m a (jm_up x r j v) := by
  funext a' j'
  show (if a' = a + r ∧ j' = j then v else wrI m a x a' j') = wrI m a (jm_up x r j v) a' j'
  by_cases q : a' = a + r
  · subst q
    rw [wrI_r r h, wrI_r r h]
    unfold jm_up
    simp
  · rw [if_neg (fun h => q h.1)]
    unfold wrI
    by_cases z : a ≤ a' ∧ a' < a + 7
    · rw [if_pos z, if_pos z]
      unfold jm_up
      rw [if_neg (fun h => q (by omega))]
    · rw [if_neg z, if_neg z]
theorem wrI_u0 : jm_up (wrI m a x) a j v = wrI m a (jm_up x 0 j v) := wrI_up 0 (by decide)
theorem wrI_u1 : jm_up (wrI m a x) (a + 1) j v = wrI m a (jm_up x 1 j v) := wrI_up 1 (by decide)
theorem wrI_u2 : jm_up (wrI m a x) (a + 2) j v = wrI m a (jm_up x 2 j v) := wrI_up 2 (by decide)
theorem wrI_u3 : jm_up (wrI m a x) (a + 3) j v = wrI m a (jm_up x 3 j v) := wrI_up 3 (by decide)
theorem wrI_u4 : jm_up (wrI m a x) (a + 4) j v = wrI m a (jm_up x 4 j v) := wrI_up 4 (by decide)
theorem wrI_u5 : jm_up (wrI m a x) (a + 5) j v = wrI m a (jm_up x 5 j v) := wrI_up 5 (by decide)
theorem wrI_u6 : jm_up (wrI m a x) (a + 6) j v = wrI m a (jm_up x 6 j v) := wrI_up 6 (by decide)
theorem wrI_self : wrI m a (vwI m a) = m := by
  funext a' j'
  unfold wrI vwI
  by_cases q : a ≤ a' ∧ a' < a + 7
  · rw [if_pos q]; congr 1; omega
  · rw [if_neg q]
theorem wrI_wrI {z : Nat → Nat → Int32} : wrI (wrI m a x) a z = wrI m a z := by
  funext a' j'
  unfold wrI
  by_cases q : a ≤ a' ∧ a' < a + 7
  · rw [if_pos q, if_pos q]
  · rw [if_neg q, if_neg q, if_neg q]
theorem wrI_d (h : djI a b) (r : Nat) (hr : r < 7) : wrI m a x (b + r) j = m (b + r) j := by
  unfold wrI
  rw [if_neg (by unfold djI at h; omega)]
theorem wrI_d0 (h : djI a b) : wrI m a x b j = m b j := wrI_d h 0 (by decide)
theorem wrI_cpy (h : djI a b) (r : Nat) (hr : r < 7) : jm_cpy (wrI m a x) (b + r) (a + r) 0 0 6 = wrI m a (fun r' j => if r' = r then (if j < 6 then m (b + r) j else x r j) else x r' j) := by
  funext a' j'
  unfold jm_cpy
  by_cases q : a' = a + r
  · subst q
    rw [if_pos rfl, wrI_r r hr, if_pos rfl]
    unfold va_cpy
    by_cases z : j' < 6
    · rw [if_pos (by omega), if_pos z, wrI_d h r hr]; congr 1; omega
    · rw [if_neg (by omega), if_neg z, wrI_r r hr]
  · rw [if_neg q]
    unfold wrI
    by_cases z : a ≤ a' ∧ a' < a + 7
    · rw [if_pos z, if_pos z]
      dsimp only
      rw [if_neg (by omega)]
    · rw [if_neg z, if_neg z]
theorem vwI_wrI : ∀ r, r < 7 → vwI (wrI m a x) a r = x r := fun r h => by funext j; exact wrI_r r h
theorem vwI_d (h : djI a b) : ∀ r, r < 7 → vwI (wrI m a x) b r = vwI m b r := fun r hr => by funext j; exact wrI_d h r hr
end WI
set_option maxRecDepth 100000 in
theorem jm_ia_dj' : ∀ a ∈ jm_iaL, ∀ b ∈ jm_iaL, a ≠ b → a + 7 ≤ b ∨ b + 7 ≤ a := by decide +kernel
theorem jm_ia_dj {a b : Nat} (ha : jm_ia a = true) (hb : jm_ia b = true) (h : a ≠ b) : djI a b := jm_ia_dj' a (jm_ia_mem ha) b (jm_ia_mem hb) h
/-- what become makes of a view -/
def becI (x y : Nat → Nat → Int32) : Nat → Nat → Int32 := fun r j => if r = 0 then (if j < 8 then y 0 j else x 0 j) else if r < 7 ∧ j < 6 then y r j else x r j
theorem k_X2_become {d a b : Nat} (ha : jm_ia a = true) (hb : jm_ia b = true) (h : a ≠ b) {m : Nat → Nat → Int32} : jm_K (d + 1) md_X2_become [.ref a, .ref b] (jm_mk m) = some (none, jm_mk (wrI m a (becI (vwI m a) (vwI m b)))) := by
  have hd := jm_ia_dj ha hb h
  show jm_R (d + 1) md_X2_become 0 [.ref a, .ref b] [] (jm_mk m) = _
  conv => lhs; rw [← wrI_self (m := m) (a := a)]
  have c1 := fun x => wrI_cpy (m := m) (x := x) hd 1 (by decide)
  have c2 := fun x => wrI_cpy (m := m) (x := x) hd 2 (by decide)
  have c3 := fun x => wrI_cpy (m := m) (x := x) hd 3 (by decide)
  have c4 := fun x => wrI_cpy (m := m) (x := x) hd 4 (by decide)
  have c5 := fun x => wrI_cpy (m := m) (x := x) hd 5 (by decide)
  have c6 := fun x => wrI_cpy (m := m) (x := x) hd 6 (by decide)
  simp only [e_X2_become_0, e_X2_become_1, e_X2_become_2, e_X2_become_5, e_X2_become_8, e_X2_become_9, e_X2_become_10, e_X2_become_13, e_X2_become_16, e_X2_become_17, e_X2_become_18, e_X2_become_21, e_X2_become_24, e_X2_become_25, e_X2_become_26, e_X2_become_29, e_X2_become_32, e_X2_become_33, e_X2_become_34, e_X2_become_37, e_X2_become_40, e_X2_become_41, e_X2_become_42, e_X2_become_45, e_X2_become_48, e_X2_become_49, e_X2_become_50, e_X2_become_53, e_X2_become_56, e_X2_become_57, e_X2_become_58, e_X2_become_61, e_X2_become_64, e_X2_become_65, e_X2_become_68, e_X2_become_69, e_X2_become_70, e_X2_become_73, e_X2_become_74, e_X2_become_76, e_X2_become_79, e_X2_become_80, e_X2_become_83, e_X2_become_84, e_X2_become_85, e_X2_become_88, e_X2_become_89, e_X2_become_91, e_X2_become_94, e_X2_become_95, e_X2_become_98, e_X2_become_99, e_X2_become_100, e_X2_become_103, e_X2_become_104, e_X2_become_106, e_X2_become_109, e_X2_become_110, e_X2_become_113, e_X2_become_114, e_X2_become_115, e_X2_become_118, e_X2_become_119, e_X2_become_121, e_X2_become_124, e_X2_become_125, e_X2_become_128, e_X2_become_129, e_X2_become_130, e_X2_become_133, e_X2_become_134, e_X2_become_136, e_X2_become_139, e_X2_become_140, e_X2_become_143, e_X2_become_144, e_X2_become_145, e_X2_become_148, e_X2_become_149, e_X2_become_151, e_X2_become_154, ha, hb, wrI_d0 hd, wrI_u0, c1, c2, c3, c4, c5, c6]
  congr 4
  funext r j
  unfold becI
  by_cases h0 : r = 0
  · subst h0
    simp only [if_true]
    unfold jm_up vwI
    simp only [Nat.add_zero, true_and]
    by_cases q : j < 8
    · rw [if_pos q]
      rcases (by omega : j = 0 ∨ j = 1 ∨ j = 2 ∨ j = 3 ∨ j = 4 ∨ j = 5 ∨ j = 6 ∨ j = 7) with rfl | rfl | rfl | rfl | rfl | rfl | rfl | rfl <;> simp
    · rw [if_neg q]
      simp [show j ≠ 0 by omega, show j ≠ 1 by omega, show j ≠ 2 by omega, show j ≠ 3 by omega, show j ≠ 4 by omega, show j ≠ 5 by omega, show j ≠ 6 by omega, show j ≠ 7 by omega]
  · rw [if_neg h0]
    by_cases q : r < 7
    · rcases (by omega : r = 1 ∨ r = 2 ∨ r = 3 ∨ r = 4 ∨ r = 5 ∨ r = 6) with rfl | rfl | rfl | rfl | rfl | rfl <;> (unfold vwI; by_cases z : j < 6 <;> simp [z, jm_up])
    · rw [show (if r < 7 ∧ j < 6 then vwI m b r j else vwI m a r j) = vwI m a r j from if_neg (fun z => q z.1)]
      simp [jm_up, h0, show r ≠ 1 by omega, show r ≠ 2 by omega, show r ≠ 3 by omega, show r ≠ 4 by omega, show r ≠ 5 by omega, show r ≠ 6 by omega]
/-! water, what shows -/
def watI (x : Nat → Nat → Int32) (k : Int32) : Int32 := x 0 1 * (if nI 0 ≤ nI 2 * (x 0 3 + k - (x 0 3 + k) / x 0 0 * x 0 0) - x 0 0 then nI 2 * (x 0 3 + k - (x 0 3 + k) / x 0 0 * x 0 0) - x 0 0 else -(nI 2 * (x 0 3 + k - (x 0 3 + k) / x 0 0 * x 0 0) - x 0 0)) / x 0 0
def shwL (h : Nat → Int32) (w : Int32) : Nat → Nat → Bool
  | 0, _ => false
  | k + 1, c => if h c ≤ w then shwL h w k (c + 1) else true
def dryL (h : Nat → Int32) (w : Int32) : Nat → Nat → Int32 → Int32
  | 0, _, s => s
  | k + 1, c, s => dryL h w k (c + 1) (if h c ≤ w then s else s ||| (nI 1 <<< (nI c &&& 31)))
theorem shwL_s {h : Nat → Int32} {w : Int32} {k c : Nat} : shwL h w (k + 1) c = if h c ≤ w then shwL h w k (c + 1) else true := rfl
theorem dryL_s {h : Nat → Int32} {w : Int32} {k c : Nat} {s : Int32} : dryL h w (k + 1) c s = dryL h w k (c + 1) (if h c ≤ w then s else s ||| (nI 1 <<< (nI c &&& 31))) := rfl
section IS
variable {d a : Nat} {m x : Nat → Nat → Int32}
theorem k_X2_water (ha : jm_ia a = true) {k : Int32} (hp : ¬ x 0 0 = 0) (hp2 : nI 1 ≤ x 0 0) : jm_K d md_X2_waterBehind [.ref a, .int k] (jm_mk (wrI m a x)) = some (some (.int (watI x k)), jm_mk (wrI m a x)) := by
  have := k_X2_waterBehind (d := d) ha (b := k) (m := wrI m a x) (by rw [wrI_0]; exact hp) (by rw [wrI_0]; exact hp2)
  simp only [wrI_0] at this
  exact this
theorem lp_X2_shows (ha : jm_ia a = true) {C : Nat} {w : Int32} {l1 : Value} (hC : x 0 5 = nI C) (hC6 : C ≤ 6) : ∀ (k c : Nat), c + k = C → jm_R d md_X2_showsBehind 8 [.ref a, l1, .int w, .int (nI c)] [] (jm_mk (wrI m a x)) = some (some (.int (if shwL (x 1) w k c = true then nI 1 else nI 0)), jm_mk (wrI m a x))
  | 0, c, h => by
    have h1 : nI C ≤ nI c := nI_le (by omega) (by omega)
    rw [e_X2_showsBehind_8]
    simp only [e_X2_showsBehind_0, e_X2_showsBehind_1, e_X2_showsBehind_2, e_X2_showsBehind_5, e_X2_showsBehind_6, e_X2_showsBehind_7, e_X2_showsBehind_9, e_X2_showsBehind_10, e_X2_showsBehind_13, e_X2_showsBehind_16, e_X2_showsBehind_17, e_X2_showsBehind_20, e_X2_showsBehind_21, e_X2_showsBehind_22, e_X2_showsBehind_23, e_X2_showsBehind_26, e_X2_showsBehind_27, e_X2_showsBehind_28, e_X2_showsBehind_31, e_X2_showsBehind_34, e_X2_showsBehind_35, ha, wrI_0, hC, h1, if_true, true_or]
    rfl
  | k + 1, c, h => by
    have h1 : ¬ nI C ≤ nI c := nI_ge (by omega) (by omega)
    have h6 : c < 6 := by omega
    have ih := lp_X2_shows (w := w) (l1 := l1) ha hC hC6 k (c + 1) (by omega)
    rw [e_X2_showsBehind_8]
    simp only [e_X2_showsBehind_0, e_X2_showsBehind_1, e_X2_showsBehind_2, e_X2_showsBehind_5, e_X2_showsBehind_6, e_X2_showsBehind_7, e_X2_showsBehind_9, e_X2_showsBehind_10, e_X2_showsBehind_13, e_X2_showsBehind_16, e_X2_showsBehind_17, e_X2_showsBehind_20, e_X2_showsBehind_21, e_X2_showsBehind_22, e_X2_showsBehind_23, e_X2_showsBehind_26, e_X2_showsBehind_27, e_X2_showsBehind_28, e_X2_showsBehind_31, e_X2_showsBehind_34, e_X2_showsBehind_35, ha, wrI_0, wrI_1, hC, h1, h6, if_false, or_true, nI_add, ih]
    rw [shwL_s]
    by_cases q : x 1 c ≤ w
    · rw [if_pos q, if_pos q]
    · rw [if_neg q, if_neg q]; rfl
theorem k_X2_shows (ha : jm_ia a = true) {C : Nat} {k : Int32} (hC : x 0 5 = nI C) (hC6 : C ≤ 6) (hp : ¬ x 0 0 = 0) (hp2 : nI 1 ≤ x 0 0) : jm_K (d + 1) md_X2_showsBehind [.ref a, .int k] (jm_mk (wrI m a x)) = some (some (.int (if shwL (x 1) (watI x k) C 0 = true then nI 1 else nI 0)), jm_mk (wrI m a x)) := by
  show jm_R (d + 1) md_X2_showsBehind 0 [.ref a, .int k, .null, .null] [] _ = _
  simp only [e_X2_showsBehind_0, e_X2_showsBehind_1, e_X2_showsBehind_2, e_X2_showsBehind_5, e_X2_showsBehind_6, e_X2_showsBehind_7, e_X2_showsBehind_9, e_X2_showsBehind_10, e_X2_showsBehind_13, e_X2_showsBehind_16, e_X2_showsBehind_17, e_X2_showsBehind_20, e_X2_showsBehind_21, e_X2_showsBehind_22, e_X2_showsBehind_23, e_X2_showsBehind_26, e_X2_showsBehind_27, e_X2_showsBehind_28, e_X2_showsBehind_31, e_X2_showsBehind_34, e_X2_showsBehind_35, ha, k_X2_water ha hp hp2, jm_bd_v]
  exact lp_X2_shows ha hC hC6 C 0 (by omega)
theorem lp_X2_dry (ha : jm_ia a = true) {C : Nat} {w : Int32} {l1 : Value} (hC : x 0 5 = nI C) (hC6 : C ≤ 6) : ∀ (k c : Nat) (s : Int32), c + k = C → jm_R d md_X2_dryBehind 11 [.ref a, l1, .int w, .int s, .int (nI c)] [] (jm_mk (wrI m a x)) = some (some (.int (dryL (x 1) w k c s)), jm_mk (wrI m a x))
  | 0, c, s, h => by
    have h1 : nI C ≤ nI c := nI_le (by omega) (by omega)
    rw [e_X2_dryBehind_11]
    simp only [e_X2_dryBehind_0, e_X2_dryBehind_1, e_X2_dryBehind_2, e_X2_dryBehind_5, e_X2_dryBehind_6, e_X2_dryBehind_7, e_X2_dryBehind_8, e_X2_dryBehind_9, e_X2_dryBehind_13, e_X2_dryBehind_14, e_X2_dryBehind_17, e_X2_dryBehind_20, e_X2_dryBehind_21, e_X2_dryBehind_24, e_X2_dryBehind_26, e_X2_dryBehind_27, e_X2_dryBehind_28, e_X2_dryBehind_31, e_X2_dryBehind_32, e_X2_dryBehind_33, e_X2_dryBehind_35, e_X2_dryBehind_36, e_X2_dryBehind_37, e_X2_dryBehind_38, e_X2_dryBehind_41, e_X2_dryBehind_44, e_X2_dryBehind_45, ha, wrI_0, hC, h1, if_true]
    rfl
  | k + 1, c, s, h => by
    have h1 : ¬ nI C ≤ nI c := nI_ge (by omega) (by omega)
    have h6 : c < 6 := by omega
    have ih := fun s => lp_X2_dry (w := w) (l1 := l1) ha hC hC6 k (c + 1) s (by omega)
    rw [e_X2_dryBehind_11]
    simp only [e_X2_dryBehind_0, e_X2_dryBehind_1, e_X2_dryBehind_2, e_X2_dryBehind_5, e_X2_dryBehind_6, e_X2_dryBehind_7, e_X2_dryBehind_8, e_X2_dryBehind_9, e_X2_dryBehind_13, e_X2_dryBehind_14, e_X2_dryBehind_17, e_X2_dryBehind_20, e_X2_dryBehind_21, e_X2_dryBehind_24, e_X2_dryBehind_26, e_X2_dryBehind_27, e_X2_dryBehind_28, e_X2_dryBehind_31, e_X2_dryBehind_32, e_X2_dryBehind_33, e_X2_dryBehind_35, e_X2_dryBehind_36, e_X2_dryBehind_37, e_X2_dryBehind_38, e_X2_dryBehind_41, e_X2_dryBehind_44, e_X2_dryBehind_45, ha, wrI_0, wrI_1, hC, h1, h6, if_false, nI_add, ih]
    rw [dryL_s]
    by_cases q : x 1 c ≤ w
    · rw [if_pos q, if_pos q]
    · rw [if_neg q, if_neg q]
theorem k_X2_dry (ha : jm_ia a = true) {C : Nat} {k : Int32} (hC : x 0 5 = nI C) (hC6 : C ≤ 6) (hp : ¬ x 0 0 = 0) (hp2 : nI 1 ≤ x 0 0) : jm_K (d + 1) md_X2_dryBehind [.ref a, .int k] (jm_mk (wrI m a x)) = some (some (.int (dryL (x 1) (watI x k) C 0 (nI 0))), jm_mk (wrI m a x)) := by
  show jm_R (d + 1) md_X2_dryBehind 0 [.ref a, .int k, .null, .null, .null] [] _ = _
  simp only [e_X2_dryBehind_0, e_X2_dryBehind_1, e_X2_dryBehind_2, e_X2_dryBehind_5, e_X2_dryBehind_6, e_X2_dryBehind_7, e_X2_dryBehind_8, e_X2_dryBehind_9, e_X2_dryBehind_13, e_X2_dryBehind_14, e_X2_dryBehind_17, e_X2_dryBehind_20, e_X2_dryBehind_21, e_X2_dryBehind_24, e_X2_dryBehind_26, e_X2_dryBehind_27, e_X2_dryBehind_28, e_X2_dryBehind_31, e_X2_dryBehind_32, e_X2_dryBehind_33, e_X2_dryBehind_35, e_X2_dryBehind_36, e_X2_dryBehind_37, e_X2_dryBehind_38, e_X2_dryBehind_41, e_X2_dryBehind_44, e_X2_dryBehind_45, ha, k_X2_water ha hp hp2, jm_bd_v]
  exact lp_X2_dry ha hC hC6 C 0 (nI 0) (by omega)
end IS
