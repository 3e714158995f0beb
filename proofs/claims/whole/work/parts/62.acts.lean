/-! acts: kept on both sides -/
def mn24 (k : Nat) : Nat := if k < 24 then k + 1 else 24
set_option maxRecDepth 100000 in
theorem ia_kp : ∀ e, e < 24 → jm_ia (17 + 7 * e) = true ∧ 17 + 7 * e ≠ 200 := by decide +kernel
set_option maxRecDepth 100000 in
theorem rem24 : ∀ a, a < 48 → nI a - nI a / nI 24 * nI 24 = nI (a % 24) := by decide +kernel
theorem n24 : ¬ nI 24 = 0 := by decide
def kpC (m : Nat → Nat → Int32) (e k : Nat) : Nat → Nat → Int32 := jm_up (jm_up (wrI m (17 + 7 * e) (becI (vwI m (17 + 7 * e)) (vwI m 200))) 15 1 (nI ((e + 1) % 24))) 15 2 (nI (mn24 k))
theorem k_X0_keep {d e k : Nat} {m : Nat → Nat → Int32} (he : e < 24) (hk : k ≤ 24) (h1 : m 15 1 = nI e) (h2 : m 15 2 = nI k) : jm_K (d + 2) md_X0_keep [.ref 15, .ref 200] (jm_mk m) = some (none, jm_mk (kpC m e k)) := by
  show jm_R (d + 2) md_X0_keep 0 [.ref 15, .ref 200] [] _ = _
  obtain ⟨i1, i2⟩ := ia_kp e he
  have hb := k_X2_become (d := d) (a := 17 + 7 * e) (b := 200) (m := m) i1 (by decide) i2
  have r15 : ∀ x, wrI m (17 + 7 * e) x 15 = m 15 := fun x => by
    funext j
    unfold wrI
    rw [if_neg (by omega)]
  have em : (if nI 24 < nI (k + 1) then nI 24 else nI (k + 1)) = nI (mn24 k) := by
    unfold mn24
    by_cases q : k < 24
    · rw [if_pos q, if_neg (nI_nlt (by omega) (by omega))]
    · rw [if_neg q, if_pos (nI_lt (by omega) (by omega))]
  have h2' : ∀ x, jm_up (wrI m (17 + 7 * e) x) 15 1 (nI ((e + 1) % 24)) 15 2 = nI k := fun x => by rw [jup_ne (by decide), r15]; exact h2
  simp only [e_X0_keep_0, e_X0_keep_1, e_X0_keep_4, e_X0_keep_5, e_X0_keep_8, e_X0_keep_9, e_X0_keep_10, e_X0_keep_13, e_X0_keep_14, e_X0_keep_15, e_X0_keep_18, e_X0_keep_19, e_X0_keep_20, e_X0_keep_22, e_X0_keep_23, e_X0_keep_26, e_X0_keep_27, e_X0_keep_28, e_X0_keep_31, e_X0_keep_32, e_X0_keep_33, e_X0_keep_35, e_X0_keep_38, e_X0_keep_41, h1, he, i1, hb, jm_bd_0, r15, nI_add, n24, not_false_eq_true, rem24 (e + 1) (show e + 1 < 48 by omega), h2', em]
  rfl
def shf (f : Nat → Int32) (c : Nat) : Nat → Int32 := fun j => if j < c then f (j + 44) else f j
theorem shf_0 {f : Nat → Int32} : shf f 0 = f := by
  funext j
  exact if_neg (by omega)
theorem shf_s {f : Nat → Int32} {c : Nat} : upd (shf f c) c (f (c + 44)) = shf f (c + 1) := by
  funext j
  by_cases q : j = c
  · subst q
    rw [pk_us]
    unfold shf
    rw [if_pos (by omega)]
  · rw [pk_un q]
    unfold shf
    by_cases u : j < c
    · rw [if_pos u, if_pos (by omega)]
    · rw [if_neg u, if_neg (by omega)]
theorem lp_note1 {d : Nat} {m : Nat → Nat → Int32} {f : Nat → Int32} : ∀ (k c : Nat), c + k = 1012 → jm_R d md_X7_note 11 [.ref 217, .int (nI c)] [] (jm_mk (wrA m 225 (shf f c))) = jm_R d md_X7_note 39 [.ref 217, .int (nI 1012)] [] (jm_mk (wrA m 225 (shf f 1012))) := by
  intro k
  induction k with
  | zero =>
    intro c h
    have h1 : nI 1012 ≤ nI c := nI_le (by omega) (by omega)
    rw [e_X7_note_11]
    simp only [e_X7_note_0, e_X7_note_1, e_X7_note_4, e_X7_note_6, e_X7_note_9, e_X7_note_10, e_X7_note_12, e_X7_note_15, e_X7_note_18, e_X7_note_19, e_X7_note_22, e_X7_note_23, e_X7_note_24, e_X7_note_27, e_X7_note_28, e_X7_note_30, e_X7_note_31, e_X7_note_32, e_X7_note_33, e_X7_note_36, e_X7_note_40, e_X7_note_41, e_X7_note_44, e_X7_note_45, e_X7_note_46, e_X7_note_49, e_X7_note_50, e_X7_note_52, e_X7_note_54, e_X7_note_57, e_X7_note_58, e_X7_note_61, e_X7_note_63, e_X7_note_64, e_X7_note_67, e_X7_note_68, e_X7_note_69, e_X7_note_70, e_X7_note_71, e_X7_note_74, e_X7_note_75, e_X7_note_76, e_X7_note_77, e_X7_note_80, e_X7_note_83, e_X7_note_84, e_X7_note_85, e_X7_note_88, e_X7_note_89, e_X7_note_90, e_X7_note_93, h1, if_true]
    rw [show c = 1012 by omega]
  | succ k ih =>
    intro c h
    have h1 : ¬ nI 1012 ≤ nI c := nI_ge (by omega) (by omega)
    have h2 : c < 1056 := by omega
    have h3 : c + 44 < 1056 := by omega
    have e : shf f c (c + 44) = f (c + 44) := if_neg (by omega)
    rw [e_X7_note_11]
    simp only [e_X7_note_0, e_X7_note_1, e_X7_note_4, e_X7_note_6, e_X7_note_9, e_X7_note_10, e_X7_note_12, e_X7_note_15, e_X7_note_18, e_X7_note_19, e_X7_note_22, e_X7_note_23, e_X7_note_24, e_X7_note_27, e_X7_note_28, e_X7_note_30, e_X7_note_31, e_X7_note_32, e_X7_note_33, e_X7_note_36, e_X7_note_40, e_X7_note_41, e_X7_note_44, e_X7_note_45, e_X7_note_46, e_X7_note_49, e_X7_note_50, e_X7_note_52, e_X7_note_54, e_X7_note_57, e_X7_note_58, e_X7_note_61, e_X7_note_63, e_X7_note_64, e_X7_note_67, e_X7_note_68, e_X7_note_69, e_X7_note_70, e_X7_note_71, e_X7_note_74, e_X7_note_75, e_X7_note_76, e_X7_note_77, e_X7_note_80, e_X7_note_83, e_X7_note_84, e_X7_note_85, e_X7_note_88, e_X7_note_89, e_X7_note_90, e_X7_note_93, h1, if_false, nI_add, h2, h3, wrA_at, e, wrA_up, shf_s, ih (c + 1) (show c + 1 + k = 1012 by omega)]
theorem lp_note2 {d n : Nat} {m : Nat → Nat → Int32} {f : Nat → Int32} (hn : n < 24) (h17 : m 217 17 = nI n) : ∀ (k c : Nat), c + k = 44 → jm_R d md_X7_note 51 [.ref 217, .int (nI c)] [] (jm_mk (wrA m 225 (seg (44 * n) (m 221) f c))) = some (none, jm_mk (jm_up (wrA m 225 (seg (44 * n) (m 221) f 44)) 217 17 (nI (n + 1)))) := by
  have r17 : ∀ g, wrA m 225 g 217 17 = nI n := fun g => by rw [wrA_ne (by decide)]; exact h17
  intro k
  induction k with
  | zero =>
    intro c h
    have h1 : nI 44 ≤ nI c := nI_le (by omega) (by omega)
    rw [e_X7_note_51]
    simp only [e_X7_note_0, e_X7_note_1, e_X7_note_4, e_X7_note_6, e_X7_note_9, e_X7_note_10, e_X7_note_12, e_X7_note_15, e_X7_note_18, e_X7_note_19, e_X7_note_22, e_X7_note_23, e_X7_note_24, e_X7_note_27, e_X7_note_28, e_X7_note_30, e_X7_note_31, e_X7_note_32, e_X7_note_33, e_X7_note_36, e_X7_note_39, e_X7_note_40, e_X7_note_41, e_X7_note_44, e_X7_note_45, e_X7_note_46, e_X7_note_49, e_X7_note_50, e_X7_note_52, e_X7_note_54, e_X7_note_57, e_X7_note_58, e_X7_note_61, e_X7_note_63, e_X7_note_64, e_X7_note_67, e_X7_note_68, e_X7_note_69, e_X7_note_70, e_X7_note_71, e_X7_note_74, e_X7_note_75, e_X7_note_76, e_X7_note_77, e_X7_note_80, e_X7_note_83, e_X7_note_84, e_X7_note_85, e_X7_note_88, e_X7_note_89, e_X7_note_90, e_X7_note_93, h1, if_true, r17, nI_add]
    rw [show c = 44 by omega]
  | succ k ih =>
    intro c h
    have h1 : ¬ nI 44 ≤ nI c := nI_ge (by omega) (by omega)
    have h2 : c < 44 := by omega
    have h3 : 44 * n + c < 1056 := by omega
    rw [e_X7_note_51]
    simp only [e_X7_note_0, e_X7_note_1, e_X7_note_4, e_X7_note_6, e_X7_note_9, e_X7_note_10, e_X7_note_12, e_X7_note_15, e_X7_note_18, e_X7_note_19, e_X7_note_22, e_X7_note_23, e_X7_note_24, e_X7_note_27, e_X7_note_28, e_X7_note_30, e_X7_note_31, e_X7_note_32, e_X7_note_33, e_X7_note_36, e_X7_note_39, e_X7_note_40, e_X7_note_41, e_X7_note_44, e_X7_note_45, e_X7_note_46, e_X7_note_49, e_X7_note_50, e_X7_note_52, e_X7_note_54, e_X7_note_57, e_X7_note_58, e_X7_note_61, e_X7_note_63, e_X7_note_64, e_X7_note_67, e_X7_note_68, e_X7_note_69, e_X7_note_70, e_X7_note_71, e_X7_note_74, e_X7_note_75, e_X7_note_76, e_X7_note_77, e_X7_note_80, e_X7_note_83, e_X7_note_84, e_X7_note_85, e_X7_note_88, e_X7_note_89, e_X7_note_90, e_X7_note_93, h1, if_false, r17, nI_mulN, nI_add, h2, h3, wrA_ne (show (221 : Nat) ≠ 225 by decide), wrA_up, seg_s, ih (c + 1) (show c + 1 + k = 44 by omega)]
def noG (k : Nat) (y f : Nat → Int32) : Nat → Int32 := if k < 24 then seg (44 * k) y f 44 else seg 1012 y (shf f 1012) 44
def noM (m : Nat → Nat → Int32) (k : Nat) : Nat → Nat → Int32 := wrA (jm_up m 217 17 (nI (mn24 k))) 225 (noG k (m 221) (m 225))
theorem upA {m : Nat → Nat → Int32} {A a j : Nat} {f : Nat → Int32} {v : Int32} (h : a ≠ A) : jm_up (wrA m A f) a j v = wrA (jm_up m a j v) A f := by
  funext x y
  unfold jm_up wrA
  by_cases q : x = A
  · subst q; simp [h.symm]
  · simp [q]
theorem up_up {m : Nat → Nat → Int32} {a j : Nat} {u v : Int32} : jm_up (jm_up m a j u) a j v = jm_up m a j v := by
  funext x y
  unfold jm_up
  by_cases q : x = a ∧ y = j
  · simp [q]
  · rw [if_neg q, if_neg q, if_neg q]
theorem k_X7_note {d k : Nat} {m : Nat → Nat → Int32} (hk : k ≤ 24) (h17 : m 217 17 = nI k) : jm_K d md_X7_note [.ref 217] (jm_mk m) = some (none, jm_mk (noM m k)) := by
  show jm_R d md_X7_note 0 [.ref 217, .null] [] _ = _
  unfold noM noG mn24
  by_cases q : k < 24
  · have h1 : ¬ nI k = nI 24 := fun e => by have := (nI_eq (by omega) (by omega)).mp e; omega
    have h2 := lp_note2 (d := d) (m := m) (f := m 225) q h17 44 0 rfl
    rw [seg_0, wrA_self] at h2
    rw [if_pos q, if_pos q]
    simp only [e_X7_note_0, e_X7_note_1, e_X7_note_4, e_X7_note_6, e_X7_note_9, e_X7_note_10, e_X7_note_12, e_X7_note_15, e_X7_note_18, e_X7_note_19, e_X7_note_22, e_X7_note_23, e_X7_note_24, e_X7_note_27, e_X7_note_28, e_X7_note_30, e_X7_note_31, e_X7_note_32, e_X7_note_33, e_X7_note_36, e_X7_note_39, e_X7_note_40, e_X7_note_41, e_X7_note_44, e_X7_note_45, e_X7_note_46, e_X7_note_49, e_X7_note_50, e_X7_note_52, e_X7_note_54, e_X7_note_57, e_X7_note_58, e_X7_note_61, e_X7_note_63, e_X7_note_64, e_X7_note_67, e_X7_note_68, e_X7_note_69, e_X7_note_70, e_X7_note_71, e_X7_note_74, e_X7_note_75, e_X7_note_76, e_X7_note_77, e_X7_note_80, e_X7_note_83, e_X7_note_84, e_X7_note_85, e_X7_note_88, e_X7_note_89, e_X7_note_90, e_X7_note_93, h17, h1, not_false_eq_true, if_true]
    rw [h2, upA (by decide)]
  · have hk24 : k = 24 := by omega
    subst hk24
    have h1 := lp_note1 (d := d) (m := m) (f := m 225) 1012 0 rfl
    rw [shf_0, wrA_self] at h1
    have h2 := lp_note2 (d := d) (n := 23) (m := jm_up m 217 17 (nI 23)) (f := shf (m 225) 1012) (by decide) jup_eq 44 0 rfl
    rw [seg_0, jupr (show (221 : Nat) ≠ 217 by decide)] at h2
    rw [if_neg q, if_neg q]
    simp only [e_X7_note_0, e_X7_note_1, e_X7_note_4, e_X7_note_6, e_X7_note_9, e_X7_note_10, e_X7_note_12, e_X7_note_15, e_X7_note_18, e_X7_note_19, e_X7_note_22, e_X7_note_23, e_X7_note_24, e_X7_note_27, e_X7_note_28, e_X7_note_30, e_X7_note_31, e_X7_note_32, e_X7_note_33, e_X7_note_36, e_X7_note_49, e_X7_note_50, e_X7_note_52, e_X7_note_54, e_X7_note_57, e_X7_note_58, e_X7_note_61, e_X7_note_63, e_X7_note_64, e_X7_note_67, e_X7_note_68, e_X7_note_69, e_X7_note_70, e_X7_note_71, e_X7_note_74, e_X7_note_75, e_X7_note_76, e_X7_note_77, e_X7_note_80, e_X7_note_83, e_X7_note_84, e_X7_note_85, e_X7_note_88, e_X7_note_89, e_X7_note_90, e_X7_note_93, h17, not_true_eq_false, if_false, h1]
    simp only [e_X7_note_39, e_X7_note_40, e_X7_note_41, e_X7_note_44, e_X7_note_45, e_X7_note_46, e_X7_note_0, e_X7_note_1, e_X7_note_4, e_X7_note_6, e_X7_note_9, e_X7_note_10, e_X7_note_12, e_X7_note_15, e_X7_note_18, e_X7_note_19, e_X7_note_22, e_X7_note_23, e_X7_note_24, e_X7_note_27, e_X7_note_28, e_X7_note_30, e_X7_note_31, e_X7_note_32, e_X7_note_33, e_X7_note_36, e_X7_note_39, e_X7_note_40, e_X7_note_41, e_X7_note_44, e_X7_note_45, e_X7_note_46, e_X7_note_49, e_X7_note_50, e_X7_note_52, e_X7_note_54, e_X7_note_57, e_X7_note_58, e_X7_note_61, e_X7_note_63, e_X7_note_64, e_X7_note_67, e_X7_note_68, e_X7_note_69, e_X7_note_70, e_X7_note_71, e_X7_note_74, e_X7_note_75, e_X7_note_76, e_X7_note_77, e_X7_note_80, e_X7_note_83, e_X7_note_84, e_X7_note_85, e_X7_note_88, e_X7_note_89, e_X7_note_90, e_X7_note_93, wrA_ne (show (217 : Nat) ≠ 225 by decide), h17, nI_subN (show 1 ≤ 24 by decide) (show 24 < 1000000 by decide), upA (show (217 : Nat) ≠ 225 by decide)]
    show jm_R d md_X7_note 51 [.ref 217, .int (nI 0)] [] (jm_mk (wrA (jm_up m 217 17 (nI 23)) 225 (shf (m 225) 1012))) = _
    rw [h2, upA (by decide), up_up]
/-- how the kept ones move on -/
theorem noG_at {k : Nat} {y f : Nat → Int32} (hk : k ≤ 24) : ∀ i, i < mn24 k → ∀ j, j < 44 → noG k y f (44 * i + j) = if i + 1 = mn24 k then y j else f (44 * (i + (k + 1 - mn24 k)) + j) := by
  intro i hi j hj
  unfold noG mn24 at *
  by_cases q : k < 24
  · rw [if_pos q] at hi ⊢
    rw [if_pos q]
    by_cases u : i = k
    · subst u
      rw [if_pos rfl, seg_in hj]
    · rw [if_neg (by omega), seg_out (by omega)]
      congr 1
      omega
  · rw [if_neg q] at hi ⊢
    rw [if_neg q]
    have hk : k = 24 := by omega
    subst hk
    by_cases u : i = 23
    · subst u
      rw [if_pos rfl, show 44 * 23 + j = 1012 + j by omega, seg_in hj]
    · rw [if_neg (by omega), seg_out (by omega)]
      unfold shf
      rw [if_pos (by omega)]
      congr 1
      omega
theorem GX.cg {x x' : Nat → Nat → Int32} {y y' : Nat → Int32} (g : GX x y) (hx : ∀ r, r < 7 → x' r = x r) (hy : ∀ j, j < 44 → y' j = y j) : GX x' y' := (g.congr hy).congrx hx
/-- an act, kept and done on both sides -/
theorem Rel.act {m m2 x' : Nat → Nat → Int32} {y' : Nat → Int32} {e k C N : Nat} (hR : Rel m) (he : e < 24) (hk : k ≤ 24) (h15 : m 15 1 = nI e) (h25 : m 15 2 = nI k) (hth : m 217 4 = nI 1) (g' : GN C N x' y')
    (o : ∀ a, ¬ (15 ≤ a ∧ a < 185) → ¬ (200 ≤ a ∧ a < 207) → ¬ (208 ≤ a ∧ a < 215) → a ≠ 217 → a ≠ 221 → a ≠ 225 → a ≠ 226 → m2 a = m a)
    (o7 : ∀ j, j ≠ 17 → m2 217 j = m 217 j) (o17 : m2 217 17 = nI (mn24 k)) (p1 : m2 15 1 = nI ((e + 1) % 24)) (p2 : m2 15 2 = nI (mn24 k))
    (px : ∀ r, r < 7 → m2 (200 + r) = x' r) (py : ∀ j, j < 44 → m2 221 j = y' j)
    (pk : ∀ a, 17 ≤ a → a < 185 → ¬ (17 + 7 * e ≤ a ∧ a < 24 + 7 * e) → m2 a = m a) (pn : ∀ r, r < 7 → m2 (17 + 7 * e + r) = becI (vwI m (17 + 7 * e)) (vwI m 200) r)
    (pg : ∀ j, m2 225 j = noG k (m 221) (m 225) j) : Rel m2 := by
  obtain ⟨g1, g2, g3, g4, g5, g6, g7⟩ := hR
  have gx : GX (vwI m 200) (m 221) := by
    rcases g4 with ⟨z, -⟩ | ⟨-, z⟩
    · rw [hth] at z; exact absurd z bv1
    · exact z
  refine ⟨g1.c (fun a ha => o a (by omega) (by omega) (by omega) (by omega) (by omega) (by omega) (by omega)), g2.c (by rw [o 0 (by decide) (by decide) (by decide) (by decide) (by decide) (by decide) (by decide)]) (o7 3 (by decide)), g3.c (by rw [o 13 (by decide) (by decide) (by decide) (by decide) (by decide) (by decide) (by decide)]) (by rw [o 13 (by decide) (by decide) (by decide) (by decide) (by decide) (by decide) (by decide)]) (o7 8 (by decide)) (o7 9 (by decide)) (o 14 (by decide) (by decide) (by decide) (by decide) (by decide) (by decide) (by decide)) (o 223 (by decide) (by decide) (by decide) (by decide) (by decide) (by decide) (by decide)), Or.inr ⟨by rw [o7 4 (by decide)]; exact hth, g'.gx.cg (fun r hr => px r hr) py⟩, ?_, g6.c (fun a ha hb => o a (by omega) (by omega) (by omega) (by omega) (by omega) (by omega) (by omega)) (o 227 (by decide) (by decide) (by decide) (by decide) (by decide) (by decide) (by decide)) (o 228 (by decide) (by decide) (by decide) (by decide) (by decide) (by decide) (by decide)) (o7 4 (by decide)), g7.c (by rw [o 215 (by decide) (by decide) (by decide) (by decide) (by decide) (by decide) (by decide)]) (o7 22 (by decide)) (o 216 (by decide) (by decide) (by decide) (by decide) (by decide) (by decide) (by decide)) (o 229 (by decide) (by decide) (by decide) (by decide) (by decide) (by decide) (by decide))⟩
  obtain ⟨e0, k0, e1, e2, e3, e4, e5, e6⟩ := g5
  have ee : e0 = e := (nI_eq (by omega) (by omega)).mp (e3.symm.trans h15)
  have ek : k0 = k := (nI_eq (by omega) (by omega)).mp (e4.symm.trans h25)
  subst ee ek
  have hmn : mn24 k0 ≤ 24 := by unfold mn24; split <;> omega
  refine ⟨(e0 + 1) % 24, mn24 k0, by omega, hmn, p1, p2, o17, fun i hi => ?_⟩
  have hG := noG_at (y := m 221) (f := m 225) hk i hi
  by_cases u : i + 1 = mn24 k0
  · have ea : kpA ((e0 + 1) % 24) (mn24 k0) i = 17 + 7 * e0 := by unfold kpA; omega
    rw [ea]
    refine (GX.bec (w := vwI m (17 + 7 * e0)) gx).cg (fun r hr => pn r hr) (fun j hj => ?_)
    show m2 225 (44 * i + j) = m 221 j
    rw [pg, hG j hj, if_pos u]
  · have hm : (k0 < 24 ∧ mn24 k0 = k0 + 1) ∨ (k0 = 24 ∧ mn24 k0 = 24) := by
      unfold mn24
      by_cases v : k0 < 24
      · exact Or.inl ⟨v, if_pos v⟩
      · exact Or.inr ⟨by omega, if_neg v⟩
    have hs : i + (k0 + 1 - mn24 k0) < k0 := by omega
    have ea : kpA ((e0 + 1) % 24) (mn24 k0) i = kpA e0 k0 (i + (k0 + 1 - mn24 k0)) := by
      unfold kpA
      omega
    have ne : kpA e0 k0 (i + (k0 + 1 - mn24 k0)) + 7 ≤ 17 + 7 * e0 ∨ 24 + 7 * e0 ≤ kpA e0 k0 (i + (k0 + 1 - mn24 k0)) := by unfold kpA; omega
    have nb : 17 ≤ kpA e0 k0 (i + (k0 + 1 - mn24 k0)) ∧ kpA e0 k0 (i + (k0 + 1 - mn24 k0)) + 7 ≤ 185 := by unfold kpA; omega
    rw [ea]
    refine (e6 _ hs).cg (fun r hr => ?_) (fun j hj => ?_)
    · show m2 (kpA e0 k0 (i + (k0 + 1 - mn24 k0)) + r) = m (kpA e0 k0 (i + (k0 + 1 - mn24 k0)) + r)
      exact pk _ (by omega) (by omega) (by omega)
    · show m2 225 (44 * i + j) = m 225 (44 * (i + (k0 + 1 - mn24 k0)) + j)
      rw [pg, hG j hj, if_neg u]
