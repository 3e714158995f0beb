/-! drawn -/
def dT (t : Nat) : Nat := t * 16807 % 2147483647
theorem dT_lt {t : Nat} : dT t < 2147483647 := Nat.mod_lt _ (by decide)
theorem dT_I {t : Nat} (h : t < 2147483647) : lN t * lN 16807 - lN t * lN 16807 / lN 2147483647 * lN 2147483647 = lN (dT t) := by
  rw [lN_mul, pk_lRem (by omega) (by decide) (by decide)]
  rfl
theorem lR {a b : Nat} (ha : a < 2147483647) (h0 : 0 < b) (hb : b < 100) : lN a - lN a / lN b * lN b = lN (a % b) := pk_lRem (by omega) h0 (by omega)
theorem lne {b : Nat} (h0 : 0 < b) (hb : b < 2 ^ 63) : ¬ lN b = 0 := fun h => by
  have := (pk_lEQ (a := b) (b := 0) hb (by decide)).mp h
  omega
def drX (N t : Nat) (x : Nat → Nat → Int32) : Nat → Nat → Int32 := if t % 5 = 0 then jm_up (jm_up x 0 2 (nI (t % 4))) 0 7 (x 0 7 ^^^ (nI 1 <<< (nI (t % N) &&& 31))) else jm_up x 0 2 (nI (t % 4))
def drM (N t : Nat) (y : Nat → Int32) : Nat → Int32 := if t % 5 = 0 then upd (upd y 2 (nI (t % 4))) 6 (y 6 ^^^ (nI 1 <<< (nI (t % N) &&& 31))) else upd y 2 (nI (t % 4))
section DR
variable {C N d t : Nat} {x m : Nat → Nat → Int32} {y : Nat → Int32}
theorem GN.drw (g : GN C N x y) : GN C N (drX N t x) (drM N t y) := by
  have gw := g.wnd (w := t % 4) (by have := Nat.mod_lt t (show 4 > 0 by decide); omega)
  unfold drX drM
  by_cases q : t % 5 = 0
  · rw [if_pos q, if_pos q]
    obtain ⟨s, h1, h2, h3⟩ := g.sent
    have h4 := g.N6
    have hj : t % N < N := Nat.mod_lt t (by have := g.N1; omega)
    rw [h2, h3, xor_fin s (s64 h1 h4) (t % N) (by omega)]
    exact gw.snt (Nat.xor_lt_two_pow h1 (Nat.pow_lt_pow_right (by decide) hj))
  · rw [if_neg q, if_neg q]
    exact gw
theorem k_X4_drawBy (ht : t < 2147483647) (h1 : 1 ≤ N) (h6 : N ≤ 6) (hN : x 0 6 = nI N) : jm_K d md_X4_drawBy [.ref 207, .long (lN t)] (jm_mk (wrI m 208 x)) = some (none, jm_mk (wrI m 208 (drX N t x))) := by
  show jm_R d md_X4_drawBy 0 [.ref 207, .long (lN t), .null] [] _ = _
  have e6 : jm_up x 0 2 (nI (t % 4)) 0 6 = nI N := by rw [jup_ne (by decide)]; exact hN
  have e7 : jm_up x 0 2 (nI (t % 4)) 0 7 = x 0 7 := jup_ne (by decide)
  have hn0 : ¬ nI N ≤ nI 0 := nI_ge (by omega) (by omega)
  have hl := nI_l (n := N) (by omega)
  have r4 := lR (b := 4) ht (by decide) (by decide)
  have r5 := lR (b := 5) ht (by decide) (by decide)
  have rN := lR (b := N) ht (by omega) (by omega)
  have z4 : ¬ lN 4 = 0 := lne (by decide) (by decide)
  have z5 : ¬ lN 5 = 0 := lne (by decide) (by decide)
  have zN : ¬ lN N = 0 := lne (by omega) (by omega)
  unfold drX
  by_cases q : t % 5 = 0
  · have hq : lg_cmp (lN (t % 5)) (lN 0) = nI 0 := by rw [q]; decide
    rw [if_pos q]
    simp only [e_X4_drawBy_0, e_X4_drawBy_1, e_X4_drawBy_4, e_X4_drawBy_5, e_X4_drawBy_8, e_X4_drawBy_9, e_X4_drawBy_10, e_X4_drawBy_13, e_X4_drawBy_14, e_X4_drawBy_17, e_X4_drawBy_18, e_X4_drawBy_19, e_X4_drawBy_20, e_X4_drawBy_23, e_X4_drawBy_24, e_X4_drawBy_27, e_X4_drawBy_30, e_X4_drawBy_33, e_X4_drawBy_34, e_X4_drawBy_37, e_X4_drawBy_38, e_X4_drawBy_41, e_X4_drawBy_42, e_X4_drawBy_43, e_X4_drawBy_44, e_X4_drawBy_47, e_X4_drawBy_50, e_X4_drawBy_51, e_X4_drawBy_52, e_X4_drawBy_53, e_X4_drawBy_54, e_X4_drawBy_55, e_X4_drawBy_58, z4, z5, zN, not_false_eq_true, r4, r5, lN_i, wrI_u0, hq, not_true_eq_false, if_false, wrI_0, e6, hn0, hl, rN, e7]
  · have hq : ¬ lg_cmp (lN (t % 5)) (lN 0) = nI 0 := by
      rw [lcmp_eq]
      intro h
      have := Nat.mod_lt t (show 5 > 0 by decide)
      exact q ((pk_lEQ (by omega) (by decide)).mp h)
    rw [if_neg q]
    simp only [e_X4_drawBy_0, e_X4_drawBy_1, e_X4_drawBy_4, e_X4_drawBy_5, e_X4_drawBy_8, e_X4_drawBy_9, e_X4_drawBy_10, e_X4_drawBy_13, e_X4_drawBy_14, e_X4_drawBy_17, e_X4_drawBy_18, e_X4_drawBy_19, e_X4_drawBy_20, e_X4_drawBy_23, e_X4_drawBy_24, e_X4_drawBy_27, e_X4_drawBy_30, e_X4_drawBy_33, e_X4_drawBy_34, e_X4_drawBy_37, e_X4_drawBy_38, e_X4_drawBy_41, e_X4_drawBy_42, e_X4_drawBy_43, e_X4_drawBy_44, e_X4_drawBy_47, e_X4_drawBy_50, e_X4_drawBy_51, e_X4_drawBy_52, e_X4_drawBy_53, e_X4_drawBy_54, e_X4_drawBy_55, e_X4_drawBy_58, z4, z5, zN, not_false_eq_true, r4, r5, lN_i, wrI_u0, hq, if_true]
theorem sumL_add {f : Nat → Int32} : ∀ {k c : Nat} {s v : Int32}, sumL f k c (s + v) = sumL f k c s + v
  | 0, c, s, v => rfl
  | k + 1, c, s, v => by
    show sumL f k (c + 1) (s + v + f c) = sumL f k (c + 1) (s + f c) + v
    rw [show s + v + f c = s + f c + v by rw [Int32.add_assoc, Int32.add_comm v, ← Int32.add_assoc], sumL_add]
theorem sumL_one {f g : Nat → Int32} {j : Nat} : ∀ {k c : Nat} {s : Int32}, c ≤ j → j < c + k → (∀ b, c ≤ b → b < c + k → f b = if j = b then g b + nI 1 else g b) → sumL f k c s = sumL g k c s + nI 1
  | 0, c, s, h1, h2, _ => by omega
  | k + 1, c, s, h1, h2, h => by
    show sumL f k (c + 1) (s + f c) = sumL g k (c + 1) (s + g c) + nI 1
    have hc := h c (Nat.le_refl _) (by omega)
    by_cases q : j = c
    · rw [if_pos q] at hc
      rw [hc, ← Int32.add_assoc, sumL_add]
      congr 1
      refine sumL_congr (fun b hb1 hb2 => ?_)
      rw [h b (by omega) (by omega), if_neg (by omega)]
    · rw [if_neg q] at hc
      rw [hc]
      exact sumL_one (by omega) (by omega) (fun b hb1 hb2 => h b (by omega) (by omega))
theorem GN.hld (g : GN C N x y) : ∃ o, ohS y 7 = ovI o ∧ (∀ b, o = some b → b < N) ∧ ∀ b, b < N → ohS y (38 + b) = if o = some b then y (38 + b) + nI 1 else y (38 + b) := by
  obtain ⟨o, hv, hr⟩ := g
  obtain ⟨a1, a2, a3, a4, a5, a6, a7, a8, a9, a10, a11⟩ := GX.all hv hr
  have hs := lock_sh (k := nI 0) hr a2
  rw [add0] at hs
  have := lock_hour hv hr hs
  have b := GX.all hv (IR_vx (C := C) (N := N))
  have e1 : (y 4).toNatClampNeg = N := b.2.2.2.2.2.2.2.2.1
  have e2 : (y 3).toNatClampNeg = C := b.2.2.2.2.2.2.2.2.2.1
  have e3 : uO (y 7) = o := b.2.2.2.2.2.2.2.2.2.2
  refine ⟨nwoM y N (dryMs y (watM y (y 5)) C 0 (nI 0)) o, ?_, (this.2.2).2.2.2.2.2.1.2, fun b hb => ?_⟩
  · unfold ohS
    rw [e1, e2, e3]
    exact ohM_7
  · unfold ohS
    rw [e1, e2, e3]
    exact ohM_hld hb hv.2.1.2.2
def hSum (N : Nat) (y : Nat → Int32) : Int32 := sumL (fun b => y (38 + b)) N 0 (nI 0)
theorem GN.hsum (g : GN C N x y) : hSum N (ohS y) = if ohS y 7 = -1 then hSum N y else hSum N y + nI 1 := by
  obtain ⟨o, h1, h2, h3⟩ := g.hld
  have h6 := g.N6
  rw [h1]
  cases o with
  | none =>
    rw [if_pos (show ovI none = -1 from rfl)]
    refine sumL_congr (fun b hb1 hb2 => ?_)
    try dsimp only
    rw [h3 b (by omega), if_neg (by intro h; cases h)]
  | some j =>
    have hj := h2 j rfl
    rw [if_neg (show ¬ ovI (some j) = -1 from nI_m1 (by omega))]
    refine sumL_one (j := j) (Nat.zero_le _) (by omega) (fun b hb1 hb2 => ?_)
    try dsimp only
    rw [h3 b (by omega)]
    by_cases q : j = b
    · rw [if_pos q, if_pos (by rw [q])]
    · rw [if_neg q, if_neg (by intro h; cases h; exact q rfl)]
end DR
def drR (N : Nat) : Nat → Nat → (Nat → Int32) → Int32 → Int32 → Int32 → Int32 × Int32
  | 0, _, _, h, q, _ => (h, q)
  | k + 1, t, y, h, q, l => if ohS (drM N (dT t) y) 7 = -1 then drR N k (dT t) (ohS (drM N (dT t) y)) h q l else drR N k (dT t) (ohS (drM N (dT t) y)) (h + nI 1) (if ohS (drM N (dT t) y) 7 = l then q else q + nI 1) (ohS (drM N (dT t) y) 7)
theorem drR_s {N k t : Nat} {y : Nat → Int32} {h q l : Int32} : drR N (k + 1) t y h q l = if ohS (drM N (dT t) y) 7 = -1 then drR N k (dT t) (ohS (drM N (dT t) y)) h q l else drR N k (dT t) (ohS (drM N (dT t) y)) (h + nI 1) (if ohS (drM N (dT t) y) 7 = l then q else q + nI 1) (ohS (drM N (dT t) y) 7) := rfl
theorem lp_X4_years {d C N n : Nat} {sd ta : Int32} {m : Nat → Nat → Int32} (hn : n < 1000) : ∀ (k c t : Nat) (x : Nat → Nat → Int32) (y : Nat → Int32) (h q l : Int32), GN C N x y → c + k = n → t < 2147483647 → ∃ x', jm_R (d + 3) md_X4_years 27 [.ref 207, .int (nI n), .int sd, .int ta, .long (lN t), .null, .int h, .int q, .int l, .int (nI c)] [] (jm_mk (wrI m 208 x)) = some (some (.int (if ta = nI 0 then (drR N k t y h q l).1 else (drR N k t y h q l).2)), jm_mk (wrI m 208 x')) := by
  have ha : jm_ia 208 = true := by decide
  have zM : ¬ lN 2147483647 = 0 := lne (by decide) (by decide)
  intro k
  induction k with
  | zero =>
    intro c t x y h q l g hc ht
    have h1 : nI n ≤ nI c := nI_le (by omega) (by omega)
    refine ⟨x, ?_⟩
    rw [e_X4_years_27]
    by_cases z : ta = nI 0
    · simp only [e_X4_years_0, e_X4_years_1, e_X4_years_4, e_X4_years_5, e_X4_years_8, e_X4_years_11, e_X4_years_12, e_X4_years_13, e_X4_years_15, e_X4_years_16, e_X4_years_18, e_X4_years_19, e_X4_years_21, e_X4_years_22, e_X4_years_24, e_X4_years_25, e_X4_years_29, e_X4_years_30, e_X4_years_33, e_X4_years_35, e_X4_years_38, e_X4_years_39, e_X4_years_42, e_X4_years_43, e_X4_years_45, e_X4_years_46, e_X4_years_48, e_X4_years_51, e_X4_years_52, e_X4_years_55, e_X4_years_58, e_X4_years_59, e_X4_years_62, e_X4_years_65, e_X4_years_66, e_X4_years_69, e_X4_years_72, e_X4_years_75, e_X4_years_76, e_X4_years_79, e_X4_years_82, e_X4_years_84, e_X4_years_87, e_X4_years_90, e_X4_years_91, e_X4_years_94, e_X4_years_97, e_X4_years_99, e_X4_years_102, e_X4_years_105, e_X4_years_106, e_X4_years_109, e_X4_years_111, e_X4_years_114, e_X4_years_116, h1, if_true, z, drR]
    · simp only [e_X4_years_0, e_X4_years_1, e_X4_years_4, e_X4_years_5, e_X4_years_8, e_X4_years_11, e_X4_years_12, e_X4_years_13, e_X4_years_15, e_X4_years_16, e_X4_years_18, e_X4_years_19, e_X4_years_21, e_X4_years_22, e_X4_years_24, e_X4_years_25, e_X4_years_29, e_X4_years_30, e_X4_years_33, e_X4_years_35, e_X4_years_38, e_X4_years_39, e_X4_years_42, e_X4_years_43, e_X4_years_45, e_X4_years_46, e_X4_years_48, e_X4_years_51, e_X4_years_52, e_X4_years_55, e_X4_years_58, e_X4_years_59, e_X4_years_62, e_X4_years_65, e_X4_years_66, e_X4_years_69, e_X4_years_72, e_X4_years_75, e_X4_years_76, e_X4_years_79, e_X4_years_82, e_X4_years_84, e_X4_years_87, e_X4_years_90, e_X4_years_91, e_X4_years_94, e_X4_years_97, e_X4_years_99, e_X4_years_102, e_X4_years_105, e_X4_years_106, e_X4_years_109, e_X4_years_111, e_X4_years_114, e_X4_years_116, h1, if_true, z, if_false, drR]
  | succ k ih =>
    intro c t x y h q l g hc ht
    have h1 : ¬ nI n ≤ nI c := nI_ge (by omega) (by omega)
    have hN : x 0 6 = nI N := by
      obtain ⟨o, a1, a2, a3, -⟩ := g.all
      exact a3
    have hd := k_X4_drawBy (d := d + 2) (m := m) (x := x) (dT_lt (t := t)) g.N1 g.N6 hN
    have g1 := g.drw (t := dT t)
    have hp := p_X2_pass (d := d) (m := m) ha g1.gx
    have ho : pasS (drX N (dT t) x) 0 4 = ohS (drM N (dT t) y) 7 := g1.step.owner.1
    rw [drR_s]
    by_cases z : ohS (drM N (dT t) y) 7 = -1
    · obtain ⟨x', e⟩ := ih (c + 1) (dT t) (pasS (drX N (dT t) x)) (ohS (drM N (dT t) y)) h q l g1.step (by omega) dT_lt
      refine ⟨x', ?_⟩
      rw [if_pos z, ← e, e_X4_years_27]
      simp only [e_X4_years_0, e_X4_years_1, e_X4_years_4, e_X4_years_5, e_X4_years_8, e_X4_years_11, e_X4_years_12, e_X4_years_13, e_X4_years_15, e_X4_years_16, e_X4_years_18, e_X4_years_19, e_X4_years_21, e_X4_years_22, e_X4_years_24, e_X4_years_25, e_X4_years_29, e_X4_years_30, e_X4_years_33, e_X4_years_35, e_X4_years_38, e_X4_years_39, e_X4_years_42, e_X4_years_43, e_X4_years_45, e_X4_years_46, e_X4_years_48, e_X4_years_51, e_X4_years_52, e_X4_years_55, e_X4_years_58, e_X4_years_59, e_X4_years_62, e_X4_years_65, e_X4_years_66, e_X4_years_69, e_X4_years_72, e_X4_years_75, e_X4_years_76, e_X4_years_79, e_X4_years_82, e_X4_years_84, e_X4_years_87, e_X4_years_90, e_X4_years_91, e_X4_years_94, e_X4_years_97, e_X4_years_99, e_X4_years_102, e_X4_years_105, e_X4_years_106, e_X4_years_109, e_X4_years_111, e_X4_years_114, e_X4_years_116, h1, if_false, zM, not_false_eq_true, dT_I ht, hd, jm_bd_0, hp, wrI_0, ho, z, not_true_eq_false, nI_add]
    · by_cases w : ohS (drM N (dT t) y) 7 = l
      · obtain ⟨x', e⟩ := ih (c + 1) (dT t) (pasS (drX N (dT t) x)) (ohS (drM N (dT t) y)) (h + nI 1) q (ohS (drM N (dT t) y) 7) g1.step (by omega) dT_lt
        refine ⟨x', ?_⟩
        rw [if_neg z, if_pos w, ← e, e_X4_years_27]
        simp only [e_X4_years_0, e_X4_years_1, e_X4_years_4, e_X4_years_5, e_X4_years_8, e_X4_years_11, e_X4_years_12, e_X4_years_13, e_X4_years_15, e_X4_years_16, e_X4_years_18, e_X4_years_19, e_X4_years_21, e_X4_years_22, e_X4_years_24, e_X4_years_25, e_X4_years_29, e_X4_years_30, e_X4_years_33, e_X4_years_35, e_X4_years_38, e_X4_years_39, e_X4_years_42, e_X4_years_43, e_X4_years_45, e_X4_years_46, e_X4_years_48, e_X4_years_51, e_X4_years_52, e_X4_years_55, e_X4_years_58, e_X4_years_59, e_X4_years_62, e_X4_years_65, e_X4_years_66, e_X4_years_69, e_X4_years_72, e_X4_years_75, e_X4_years_76, e_X4_years_79, e_X4_years_82, e_X4_years_84, e_X4_years_87, e_X4_years_90, e_X4_years_91, e_X4_years_94, e_X4_years_97, e_X4_years_99, e_X4_years_102, e_X4_years_105, e_X4_years_106, e_X4_years_109, e_X4_years_111, e_X4_years_114, e_X4_years_116, h1, if_false, zM, not_false_eq_true, dT_I ht, hd, jm_bd_0, hp, wrI_0, ho, if_pos z, if_pos w, nI_add]
      · obtain ⟨x', e⟩ := ih (c + 1) (dT t) (pasS (drX N (dT t) x)) (ohS (drM N (dT t) y)) (h + nI 1) (q + nI 1) (ohS (drM N (dT t) y) 7) g1.step (by omega) dT_lt
        refine ⟨x', ?_⟩
        rw [if_neg z, if_neg w, ← e, e_X4_years_27]
        simp only [e_X4_years_0, e_X4_years_1, e_X4_years_4, e_X4_years_5, e_X4_years_8, e_X4_years_11, e_X4_years_12, e_X4_years_13, e_X4_years_15, e_X4_years_16, e_X4_years_18, e_X4_years_19, e_X4_years_21, e_X4_years_22, e_X4_years_24, e_X4_years_25, e_X4_years_29, e_X4_years_30, e_X4_years_33, e_X4_years_35, e_X4_years_38, e_X4_years_39, e_X4_years_42, e_X4_years_43, e_X4_years_45, e_X4_years_46, e_X4_years_48, e_X4_years_51, e_X4_years_52, e_X4_years_55, e_X4_years_58, e_X4_years_59, e_X4_years_62, e_X4_years_65, e_X4_years_66, e_X4_years_69, e_X4_years_72, e_X4_years_75, e_X4_years_76, e_X4_years_79, e_X4_years_82, e_X4_years_84, e_X4_years_87, e_X4_years_90, e_X4_years_91, e_X4_years_94, e_X4_years_97, e_X4_years_99, e_X4_years_102, e_X4_years_105, e_X4_years_106, e_X4_years_109, e_X4_years_111, e_X4_years_114, e_X4_years_116, h1, if_false, zM, not_false_eq_true, dT_I ht, hd, jm_bd_0, hp, wrI_0, ho, if_pos z, if_neg w, nI_add]
theorem lp_X7_drawn {C N n : Nat} {sd w had : Int32} {m : Nat → Nat → Int32} {z : Nat → Int32} (hn : n < 1000) : ∀ (k c t : Nat) (x : Nat → Nat → Int32) (y : Nat → Int32) (h q l : Int32), GN C N x y → c + k = n → t < 2147483647 → ∃ (x' : Nat → Nat → Int32) (y' : Nat → Int32) (l' : Int32) (t' : Nat), jm_R 12 md_X7_drawn 67 [.ref 217, .int (nI n), .int sd, .int w, .long (lN t), .null, .int had, .int l, .int q, .int (nI c)] [] (jm_mk (wrA (wrA m 226 z) 221 y)) = jm_R 12 md_X7_drawn 176 [.ref 217, .int (nI n), .int sd, .int w, .long (lN t'), .null, .int had, .int l', .int (drR N k t y h q l).2, .int (nI n)] [] (jm_mk (wrA (wrA m 226 z) 221 y')) ∧ GN C N x' y' ∧ hSum N y' + h = hSum N y + (drR N k t y h q l).1 := by
  have zM : ¬ lN 2147483647 = 0 := lne (by decide) (by decide)
  have z4 : ¬ lN 4 = 0 := lne (by decide) (by decide)
  have z5 : ¬ lN 5 = 0 := lne (by decide) (by decide)
  intro k
  induction k with
  | zero =>
    intro c t x y h q l g hc ht
    have h1 : nI n ≤ nI c := nI_le (by omega) (by omega)
    refine ⟨x, y, l, t, ?_, g, rfl⟩
    rw [e_X7_drawn_67]
    simp only [e_X7_drawn_0, e_X7_drawn_1, e_X7_drawn_4, e_X7_drawn_7, e_X7_drawn_9, e_X7_drawn_10, e_X7_drawn_11, e_X7_drawn_12, e_X7_drawn_13, e_X7_drawn_16, e_X7_drawn_19, e_X7_drawn_22, e_X7_drawn_23, e_X7_drawn_24, e_X7_drawn_25, e_X7_drawn_28, e_X7_drawn_31, e_X7_drawn_34, e_X7_drawn_35, e_X7_drawn_38, e_X7_drawn_41, e_X7_drawn_43, e_X7_drawn_44, e_X7_drawn_45, e_X7_drawn_48, e_X7_drawn_49, e_X7_drawn_50, e_X7_drawn_52, e_X7_drawn_53, e_X7_drawn_56, e_X7_drawn_58, e_X7_drawn_59, e_X7_drawn_61, e_X7_drawn_62, e_X7_drawn_64, e_X7_drawn_65, e_X7_drawn_69, e_X7_drawn_70, e_X7_drawn_73, e_X7_drawn_75, e_X7_drawn_78, e_X7_drawn_79, e_X7_drawn_82, e_X7_drawn_83, e_X7_drawn_85, e_X7_drawn_86, e_X7_drawn_89, e_X7_drawn_90, e_X7_drawn_92, e_X7_drawn_95, e_X7_drawn_96, e_X7_drawn_97, e_X7_drawn_98, e_X7_drawn_100, e_X7_drawn_103, e_X7_drawn_104, e_X7_drawn_105, e_X7_drawn_106, e_X7_drawn_109, e_X7_drawn_110, e_X7_drawn_113, e_X7_drawn_115, e_X7_drawn_116, e_X7_drawn_117, e_X7_drawn_118, e_X7_drawn_120, e_X7_drawn_121, e_X7_drawn_124, e_X7_drawn_125, e_X7_drawn_126, e_X7_drawn_127, e_X7_drawn_128, e_X7_drawn_129, e_X7_drawn_130, e_X7_drawn_131, e_X7_drawn_132, e_X7_drawn_133, e_X7_drawn_136, e_X7_drawn_137, e_X7_drawn_140, e_X7_drawn_142, e_X7_drawn_143, e_X7_drawn_146, e_X7_drawn_147, e_X7_drawn_150, e_X7_drawn_152, e_X7_drawn_153, e_X7_drawn_155, e_X7_drawn_158, e_X7_drawn_159, e_X7_drawn_162, e_X7_drawn_164, e_X7_drawn_165, e_X7_drawn_167, e_X7_drawn_170, e_X7_drawn_173, e_X7_drawn_177, e_X7_drawn_180, e_X7_drawn_181, e_X7_drawn_184, e_X7_drawn_186, e_X7_drawn_187, e_X7_drawn_190, e_X7_drawn_192, e_X7_drawn_194, e_X7_drawn_195, e_X7_drawn_198, e_X7_drawn_200, h1, if_true, drR]
    rw [show c = n by omega]
  | succ k ih =>
    intro c t x y h q l g hc ht
    have h1 : ¬ nI n ≤ nI c := nI_ge (by omega) (by omega)
    have hN6 := g.N6
    have hN1 := g.N1
    have zN : ¬ lN N = 0 := lne (by omega) (by omega)
    have hl := nI_l (n := N) (by omega)
    have hNy : y 4 = nI N := by
      obtain ⟨o, hv, -⟩ := g
      exact hv.2.1.1
    have r4 := lR (b := 4) (dT_lt (t := t)) (by decide) (by decide)
    have r5 := lR (b := 5) (dT_lt (t := t)) (by decide) (by decide)
    have rN := lR (b := N) (dT_lt (t := t)) (by omega) (by omega)
    have u4 : upd y 2 (nI (dT t % 4)) 4 = nI N := by rw [pk_un (by decide)]; exact hNy
    have u6 : upd y 2 (nI (dT t % 4)) 6 = y 6 := pk_un (by decide)
    have g1 := g.drw (t := dT t)
    have hp := p_X7_oneHour (d := 8) (m := wrA m 226 z) g1.gx.y
    have hs := g1.hsum
    have hs0 : hSum N (drM N (dT t) y) = hSum N y := by
      refine sumL_congr (fun b hb1 hb2 => ?_)
      unfold drM
      by_cases q5 : dT t % 5 = 0
      · rw [if_pos q5]
        show upd _ 6 _ (38 + b) = _
        rw [pk_un (by omega), pk_un (by omega)]
      · rw [if_neg q5]
        show upd _ 2 _ (38 + b) = _
        rw [pk_un (by omega)]
    rw [hs0] at hs
    obtain ⟨o, ho, ho2, -⟩ := g1.hld
    have hlt : (ohS (drM N (dT t) y) 7 < nI 0) = (ohS (drM N (dT t) y) 7 = -1) := by rw [ho]; exact ov_lt ho2 hN6
    have hgo : ∀ (had l q : Int32), jm_R 12 md_X7_drawn 67 [.ref 217, .int (nI n), .int sd, .int w, .long (lN t), .null, .int had, .int l, .int q, .int (nI c)] [] (jm_mk (wrA (wrA m 226 z) 221 y)) = jm_R 12 md_X7_drawn 136 [.ref 217, .int (nI n), .int sd, .int w, .long (lN (dT t)), .null, .int had, .int l, .int q, .int (nI c)] [] (jm_mk (wrA (wrA m 226 z) 221 (ohS (drM N (dT t) y)))) := by
      intro had l q
      rw [e_X7_drawn_67]
      by_cases q5 : dT t % 5 = 0
      · have hq : lg_cmp (lN (dT t % 5)) (lN 0) = nI 0 := by rw [q5]; decide
        have hd : drM N (dT t) y = upd (upd y 2 (nI (dT t % 4))) 6 (y 6 ^^^ (nI 1 <<< (nI (dT t % N) &&& 31))) := if_pos q5
        rw [hd] at hp ⊢
        simp only [e_X7_drawn_0, e_X7_drawn_1, e_X7_drawn_4, e_X7_drawn_7, e_X7_drawn_9, e_X7_drawn_10, e_X7_drawn_11, e_X7_drawn_12, e_X7_drawn_13, e_X7_drawn_16, e_X7_drawn_19, e_X7_drawn_22, e_X7_drawn_23, e_X7_drawn_24, e_X7_drawn_25, e_X7_drawn_28, e_X7_drawn_31, e_X7_drawn_34, e_X7_drawn_35, e_X7_drawn_38, e_X7_drawn_41, e_X7_drawn_43, e_X7_drawn_44, e_X7_drawn_45, e_X7_drawn_48, e_X7_drawn_49, e_X7_drawn_50, e_X7_drawn_52, e_X7_drawn_53, e_X7_drawn_56, e_X7_drawn_58, e_X7_drawn_59, e_X7_drawn_61, e_X7_drawn_62, e_X7_drawn_64, e_X7_drawn_65, e_X7_drawn_69, e_X7_drawn_70, e_X7_drawn_73, e_X7_drawn_75, e_X7_drawn_78, e_X7_drawn_79, e_X7_drawn_82, e_X7_drawn_83, e_X7_drawn_85, e_X7_drawn_86, e_X7_drawn_89, e_X7_drawn_90, e_X7_drawn_92, e_X7_drawn_95, e_X7_drawn_96, e_X7_drawn_97, e_X7_drawn_98, e_X7_drawn_100, e_X7_drawn_103, e_X7_drawn_104, e_X7_drawn_105, e_X7_drawn_106, e_X7_drawn_109, e_X7_drawn_110, e_X7_drawn_113, e_X7_drawn_115, e_X7_drawn_116, e_X7_drawn_117, e_X7_drawn_118, e_X7_drawn_120, e_X7_drawn_121, e_X7_drawn_124, e_X7_drawn_125, e_X7_drawn_126, e_X7_drawn_127, e_X7_drawn_128, e_X7_drawn_129, e_X7_drawn_130, e_X7_drawn_131, e_X7_drawn_132, e_X7_drawn_133, e_X7_drawn_137, e_X7_drawn_140, e_X7_drawn_142, e_X7_drawn_143, e_X7_drawn_146, e_X7_drawn_147, e_X7_drawn_150, e_X7_drawn_152, e_X7_drawn_153, e_X7_drawn_155, e_X7_drawn_158, e_X7_drawn_159, e_X7_drawn_162, e_X7_drawn_164, e_X7_drawn_165, e_X7_drawn_167, e_X7_drawn_170, e_X7_drawn_173, e_X7_drawn_176, e_X7_drawn_177, e_X7_drawn_180, e_X7_drawn_181, e_X7_drawn_184, e_X7_drawn_186, e_X7_drawn_187, e_X7_drawn_190, e_X7_drawn_192, e_X7_drawn_194, e_X7_drawn_195, e_X7_drawn_198, e_X7_drawn_200, h1, if_false, zM, z4, z5, zN, not_false_eq_true, dT_I ht, r4, r5, lN_i, show (2 : Nat) < 44 by decide, show (4 : Nat) < 44 by decide, show (6 : Nat) < 44 by decide, wrA_up, hq, not_true_eq_false, wrA_at, u4, u6, hl, rN, hp, jm_bd_0]
      · have hq : ¬ lg_cmp (lN (dT t % 5)) (lN 0) = nI 0 := by
          rw [lcmp_eq]
          intro h
          have := Nat.mod_lt (dT t) (show 5 > 0 by decide)
          exact q5 ((pk_lEQ (by omega) (by decide)).mp h)
        have hd : drM N (dT t) y = upd y 2 (nI (dT t % 4)) := if_neg q5
        rw [hd] at hp ⊢
        simp only [e_X7_drawn_0, e_X7_drawn_1, e_X7_drawn_4, e_X7_drawn_7, e_X7_drawn_9, e_X7_drawn_10, e_X7_drawn_11, e_X7_drawn_12, e_X7_drawn_13, e_X7_drawn_16, e_X7_drawn_19, e_X7_drawn_22, e_X7_drawn_23, e_X7_drawn_24, e_X7_drawn_25, e_X7_drawn_28, e_X7_drawn_31, e_X7_drawn_34, e_X7_drawn_35, e_X7_drawn_38, e_X7_drawn_41, e_X7_drawn_43, e_X7_drawn_44, e_X7_drawn_45, e_X7_drawn_48, e_X7_drawn_49, e_X7_drawn_50, e_X7_drawn_52, e_X7_drawn_53, e_X7_drawn_56, e_X7_drawn_58, e_X7_drawn_59, e_X7_drawn_61, e_X7_drawn_62, e_X7_drawn_64, e_X7_drawn_65, e_X7_drawn_69, e_X7_drawn_70, e_X7_drawn_73, e_X7_drawn_75, e_X7_drawn_78, e_X7_drawn_79, e_X7_drawn_82, e_X7_drawn_83, e_X7_drawn_85, e_X7_drawn_86, e_X7_drawn_89, e_X7_drawn_90, e_X7_drawn_92, e_X7_drawn_95, e_X7_drawn_96, e_X7_drawn_97, e_X7_drawn_98, e_X7_drawn_100, e_X7_drawn_103, e_X7_drawn_104, e_X7_drawn_105, e_X7_drawn_106, e_X7_drawn_109, e_X7_drawn_110, e_X7_drawn_113, e_X7_drawn_115, e_X7_drawn_116, e_X7_drawn_117, e_X7_drawn_118, e_X7_drawn_120, e_X7_drawn_121, e_X7_drawn_124, e_X7_drawn_125, e_X7_drawn_126, e_X7_drawn_127, e_X7_drawn_128, e_X7_drawn_129, e_X7_drawn_130, e_X7_drawn_131, e_X7_drawn_132, e_X7_drawn_133, e_X7_drawn_137, e_X7_drawn_140, e_X7_drawn_142, e_X7_drawn_143, e_X7_drawn_146, e_X7_drawn_147, e_X7_drawn_150, e_X7_drawn_152, e_X7_drawn_153, e_X7_drawn_155, e_X7_drawn_158, e_X7_drawn_159, e_X7_drawn_162, e_X7_drawn_164, e_X7_drawn_165, e_X7_drawn_167, e_X7_drawn_170, e_X7_drawn_173, e_X7_drawn_176, e_X7_drawn_177, e_X7_drawn_180, e_X7_drawn_181, e_X7_drawn_184, e_X7_drawn_186, e_X7_drawn_187, e_X7_drawn_190, e_X7_drawn_192, e_X7_drawn_194, e_X7_drawn_195, e_X7_drawn_198, e_X7_drawn_200, h1, if_false, zM, z4, z5, not_false_eq_true, dT_I ht, r4, r5, lN_i, show (2 : Nat) < 44 by decide, wrA_up, hq, if_true, hp, jm_bd_0]
    rw [drR_s]
    by_cases u : ohS (drM N (dT t) y) 7 = -1
    · obtain ⟨x', y', l', t', e, e2, e3⟩ := ih (c + 1) (dT t) _ (ohS (drM N (dT t) y)) h q l g1.step (by omega) dT_lt
      rw [if_pos u] at hs ⊢
      refine ⟨x', y', l', t', ?_, e2, by rw [e3, hs]⟩
      rw [← e, hgo]
      simp only [e_X7_drawn_0, e_X7_drawn_1, e_X7_drawn_4, e_X7_drawn_7, e_X7_drawn_9, e_X7_drawn_10, e_X7_drawn_11, e_X7_drawn_12, e_X7_drawn_13, e_X7_drawn_16, e_X7_drawn_19, e_X7_drawn_22, e_X7_drawn_23, e_X7_drawn_24, e_X7_drawn_25, e_X7_drawn_28, e_X7_drawn_31, e_X7_drawn_34, e_X7_drawn_35, e_X7_drawn_38, e_X7_drawn_41, e_X7_drawn_43, e_X7_drawn_44, e_X7_drawn_45, e_X7_drawn_48, e_X7_drawn_49, e_X7_drawn_50, e_X7_drawn_52, e_X7_drawn_53, e_X7_drawn_56, e_X7_drawn_58, e_X7_drawn_59, e_X7_drawn_61, e_X7_drawn_62, e_X7_drawn_64, e_X7_drawn_65, e_X7_drawn_69, e_X7_drawn_70, e_X7_drawn_73, e_X7_drawn_75, e_X7_drawn_78, e_X7_drawn_79, e_X7_drawn_82, e_X7_drawn_83, e_X7_drawn_85, e_X7_drawn_86, e_X7_drawn_89, e_X7_drawn_90, e_X7_drawn_92, e_X7_drawn_95, e_X7_drawn_96, e_X7_drawn_97, e_X7_drawn_98, e_X7_drawn_100, e_X7_drawn_103, e_X7_drawn_104, e_X7_drawn_105, e_X7_drawn_106, e_X7_drawn_109, e_X7_drawn_110, e_X7_drawn_113, e_X7_drawn_115, e_X7_drawn_116, e_X7_drawn_117, e_X7_drawn_118, e_X7_drawn_120, e_X7_drawn_121, e_X7_drawn_124, e_X7_drawn_125, e_X7_drawn_126, e_X7_drawn_127, e_X7_drawn_128, e_X7_drawn_129, e_X7_drawn_130, e_X7_drawn_131, e_X7_drawn_132, e_X7_drawn_133, e_X7_drawn_136, e_X7_drawn_137, e_X7_drawn_140, e_X7_drawn_142, e_X7_drawn_143, e_X7_drawn_146, e_X7_drawn_147, e_X7_drawn_150, e_X7_drawn_152, e_X7_drawn_153, e_X7_drawn_155, e_X7_drawn_158, e_X7_drawn_159, e_X7_drawn_162, e_X7_drawn_164, e_X7_drawn_165, e_X7_drawn_167, e_X7_drawn_170, e_X7_drawn_173, e_X7_drawn_176, e_X7_drawn_177, e_X7_drawn_180, e_X7_drawn_181, e_X7_drawn_184, e_X7_drawn_186, e_X7_drawn_187, e_X7_drawn_190, e_X7_drawn_192, e_X7_drawn_194, e_X7_drawn_195, e_X7_drawn_198, e_X7_drawn_200, show (7 : Nat) < 44 by decide, wrA_at, hlt, if_pos u, nI_add]
    · rw [if_neg u] at hs ⊢
      have hu : ∀ (a b r s : Int32), a + (b + nI 1) = s + nI 1 + r → a + b = s + r := fun a b r s h => by
        have h2 : a + b + nI 1 = s + r + nI 1 := by
          rw [Int32.add_assoc, h, Int32.add_assoc, Int32.add_assoc, Int32.add_comm (nI 1) r]
        exact (Int32.add_left_inj _).mp h2
      by_cases v : ohS (drM N (dT t) y) 7 = l
      · obtain ⟨x', y', l', t', e, e2, e3⟩ := ih (c + 1) (dT t) _ (ohS (drM N (dT t) y)) (h + nI 1) q (ohS (drM N (dT t) y) 7) g1.step (by omega) dT_lt
        rw [if_pos v]
        refine ⟨x', y', l', t', ?_, e2, hu _ _ _ _ (by rw [e3, hs])⟩
        rw [← e, hgo]
        have hnl : ¬ l < nI 0 := by rw [← v, hlt]; exact u
        simp only [e_X7_drawn_0, e_X7_drawn_1, e_X7_drawn_4, e_X7_drawn_7, e_X7_drawn_9, e_X7_drawn_10, e_X7_drawn_11, e_X7_drawn_12, e_X7_drawn_13, e_X7_drawn_16, e_X7_drawn_19, e_X7_drawn_22, e_X7_drawn_23, e_X7_drawn_24, e_X7_drawn_25, e_X7_drawn_28, e_X7_drawn_31, e_X7_drawn_34, e_X7_drawn_35, e_X7_drawn_38, e_X7_drawn_41, e_X7_drawn_43, e_X7_drawn_44, e_X7_drawn_45, e_X7_drawn_48, e_X7_drawn_49, e_X7_drawn_50, e_X7_drawn_52, e_X7_drawn_53, e_X7_drawn_56, e_X7_drawn_58, e_X7_drawn_59, e_X7_drawn_61, e_X7_drawn_62, e_X7_drawn_64, e_X7_drawn_65, e_X7_drawn_69, e_X7_drawn_70, e_X7_drawn_73, e_X7_drawn_75, e_X7_drawn_78, e_X7_drawn_79, e_X7_drawn_82, e_X7_drawn_83, e_X7_drawn_85, e_X7_drawn_86, e_X7_drawn_89, e_X7_drawn_90, e_X7_drawn_92, e_X7_drawn_95, e_X7_drawn_96, e_X7_drawn_97, e_X7_drawn_98, e_X7_drawn_100, e_X7_drawn_103, e_X7_drawn_104, e_X7_drawn_105, e_X7_drawn_106, e_X7_drawn_109, e_X7_drawn_110, e_X7_drawn_113, e_X7_drawn_115, e_X7_drawn_116, e_X7_drawn_117, e_X7_drawn_118, e_X7_drawn_120, e_X7_drawn_121, e_X7_drawn_124, e_X7_drawn_125, e_X7_drawn_126, e_X7_drawn_127, e_X7_drawn_128, e_X7_drawn_129, e_X7_drawn_130, e_X7_drawn_131, e_X7_drawn_132, e_X7_drawn_133, e_X7_drawn_136, e_X7_drawn_137, e_X7_drawn_140, e_X7_drawn_142, e_X7_drawn_143, e_X7_drawn_146, e_X7_drawn_147, e_X7_drawn_150, e_X7_drawn_152, e_X7_drawn_153, e_X7_drawn_155, e_X7_drawn_158, e_X7_drawn_159, e_X7_drawn_162, e_X7_drawn_164, e_X7_drawn_165, e_X7_drawn_167, e_X7_drawn_170, e_X7_drawn_173, e_X7_drawn_176, e_X7_drawn_177, e_X7_drawn_180, e_X7_drawn_181, e_X7_drawn_184, e_X7_drawn_186, e_X7_drawn_187, e_X7_drawn_190, e_X7_drawn_192, e_X7_drawn_194, e_X7_drawn_195, e_X7_drawn_198, e_X7_drawn_200, show (7 : Nat) < 44 by decide, wrA_at, v, hnl, if_false, if_true, nI_add]
      · obtain ⟨x', y', l', t', e, e2, e3⟩ := ih (c + 1) (dT t) _ (ohS (drM N (dT t) y)) (h + nI 1) (q + nI 1) (ohS (drM N (dT t) y) 7) g1.step (by omega) dT_lt
        rw [if_neg v]
        refine ⟨x', y', l', t', ?_, e2, hu _ _ _ _ (by rw [e3, hs])⟩
        rw [← e, hgo]
        simp only [e_X7_drawn_0, e_X7_drawn_1, e_X7_drawn_4, e_X7_drawn_7, e_X7_drawn_9, e_X7_drawn_10, e_X7_drawn_11, e_X7_drawn_12, e_X7_drawn_13, e_X7_drawn_16, e_X7_drawn_19, e_X7_drawn_22, e_X7_drawn_23, e_X7_drawn_24, e_X7_drawn_25, e_X7_drawn_28, e_X7_drawn_31, e_X7_drawn_34, e_X7_drawn_35, e_X7_drawn_38, e_X7_drawn_41, e_X7_drawn_43, e_X7_drawn_44, e_X7_drawn_45, e_X7_drawn_48, e_X7_drawn_49, e_X7_drawn_50, e_X7_drawn_52, e_X7_drawn_53, e_X7_drawn_56, e_X7_drawn_58, e_X7_drawn_59, e_X7_drawn_61, e_X7_drawn_62, e_X7_drawn_64, e_X7_drawn_65, e_X7_drawn_69, e_X7_drawn_70, e_X7_drawn_73, e_X7_drawn_75, e_X7_drawn_78, e_X7_drawn_79, e_X7_drawn_82, e_X7_drawn_83, e_X7_drawn_85, e_X7_drawn_86, e_X7_drawn_89, e_X7_drawn_90, e_X7_drawn_92, e_X7_drawn_95, e_X7_drawn_96, e_X7_drawn_97, e_X7_drawn_98, e_X7_drawn_100, e_X7_drawn_103, e_X7_drawn_104, e_X7_drawn_105, e_X7_drawn_106, e_X7_drawn_109, e_X7_drawn_110, e_X7_drawn_113, e_X7_drawn_115, e_X7_drawn_116, e_X7_drawn_117, e_X7_drawn_118, e_X7_drawn_120, e_X7_drawn_121, e_X7_drawn_124, e_X7_drawn_125, e_X7_drawn_126, e_X7_drawn_127, e_X7_drawn_128, e_X7_drawn_129, e_X7_drawn_130, e_X7_drawn_131, e_X7_drawn_132, e_X7_drawn_133, e_X7_drawn_136, e_X7_drawn_137, e_X7_drawn_140, e_X7_drawn_142, e_X7_drawn_143, e_X7_drawn_146, e_X7_drawn_147, e_X7_drawn_150, e_X7_drawn_152, e_X7_drawn_153, e_X7_drawn_155, e_X7_drawn_158, e_X7_drawn_159, e_X7_drawn_162, e_X7_drawn_164, e_X7_drawn_165, e_X7_drawn_167, e_X7_drawn_170, e_X7_drawn_173, e_X7_drawn_176, e_X7_drawn_177, e_X7_drawn_180, e_X7_drawn_181, e_X7_drawn_184, e_X7_drawn_186, e_X7_drawn_187, e_X7_drawn_190, e_X7_drawn_192, e_X7_drawn_194, e_X7_drawn_195, e_X7_drawn_198, e_X7_drawn_200, show (7 : Nat) < 44 by decide, wrA_at, hlt, if_neg u, if_neg v, nI_add]
theorem api_drawn (n s w : Int32) : Api md_X6_drawn md_X7_drawn [.int n, .int s, .int w] := by
  refine Api.try (fun m hR => ?_)
  obtain ⟨C, N, hC6, hN6, c6, m4, c5, m3, hcase⟩ := hR.isle
  have hI : jm_ia 200 = true := by decide
  rcases hcase with ⟨q0, q1, q2⟩ | ⟨q0, q2, g⟩
  · subst q0
    refine Api.no (r := .int (-1000002)) ?_ (fun m' h7 h1 => ?_)
    · show jm_R 12 md_X6_drawn 0 [.ref 0, .int n, .int s, .int w] [] _ = _
      simp only [e_X6_drawn_0, e_X6_drawn_1, e_X6_drawn_4, e_X6_drawn_7, e_X6_drawn_10, e_X6_drawn_12, e_X6_drawn_13, e_X6_drawn_14, e_X6_drawn_15, e_X6_drawn_17, e_X6_drawn_20, e_X6_drawn_23, e_X6_drawn_24, e_X6_drawn_25, e_X6_drawn_28, e_X6_drawn_31, e_X6_drawn_34, e_X6_drawn_35, e_X6_drawn_36, e_X6_drawn_37, e_X6_drawn_40, e_X6_drawn_43, e_X6_drawn_45, e_X6_drawn_46, e_X6_drawn_47, e_X6_drawn_50, e_X6_drawn_51, e_X6_drawn_52, e_X6_drawn_53, e_X6_drawn_54, e_X6_drawn_57, e_X6_drawn_58, e_X6_drawn_61, e_X6_drawn_62, e_X6_drawn_65, k_X2_hasBoat hI, k_X2_stands hI, k_X2_hasCell hI, c6, c5, k_X6_within, jm_bd_v, jm_bd_0, bv1, if_false, if_true, not_false_eq_true, not_true_eq_false, nI_le (Nat.le_refl 0) (show 0 < 2 ^ 31 by decide)]
    · show jm_R 12 md_X7_drawn 0 [.ref 217, .int n, .int s, .int w, .null, .null, .null, .null, .null, .null] [] _ = _
      simp only [e_X7_drawn_0, e_X7_drawn_1, e_X7_drawn_4, e_X7_drawn_7, e_X7_drawn_9, e_X7_drawn_10, e_X7_drawn_11, e_X7_drawn_12, e_X7_drawn_13, e_X7_drawn_16, e_X7_drawn_19, e_X7_drawn_22, e_X7_drawn_23, e_X7_drawn_24, e_X7_drawn_25, e_X7_drawn_28, e_X7_drawn_31, e_X7_drawn_34, e_X7_drawn_35, e_X7_drawn_38, e_X7_drawn_41, e_X7_drawn_43, e_X7_drawn_44, e_X7_drawn_45, e_X7_drawn_48, e_X7_drawn_49, e_X7_drawn_50, e_X7_drawn_52, e_X7_drawn_53, e_X7_drawn_56, e_X7_drawn_58, e_X7_drawn_59, e_X7_drawn_61, e_X7_drawn_62, e_X7_drawn_64, e_X7_drawn_65, e_X7_drawn_69, e_X7_drawn_70, e_X7_drawn_73, e_X7_drawn_75, e_X7_drawn_78, e_X7_drawn_79, e_X7_drawn_82, e_X7_drawn_83, e_X7_drawn_85, e_X7_drawn_86, e_X7_drawn_89, e_X7_drawn_90, e_X7_drawn_92, e_X7_drawn_95, e_X7_drawn_96, e_X7_drawn_97, e_X7_drawn_98, e_X7_drawn_100, e_X7_drawn_103, e_X7_drawn_104, e_X7_drawn_105, e_X7_drawn_106, e_X7_drawn_109, e_X7_drawn_110, e_X7_drawn_113, e_X7_drawn_115, e_X7_drawn_116, e_X7_drawn_117, e_X7_drawn_118, e_X7_drawn_120, e_X7_drawn_121, e_X7_drawn_124, e_X7_drawn_125, e_X7_drawn_126, e_X7_drawn_127, e_X7_drawn_128, e_X7_drawn_129, e_X7_drawn_130, e_X7_drawn_131, e_X7_drawn_132, e_X7_drawn_133, e_X7_drawn_136, e_X7_drawn_137, e_X7_drawn_140, e_X7_drawn_142, e_X7_drawn_143, e_X7_drawn_146, e_X7_drawn_147, e_X7_drawn_150, e_X7_drawn_152, e_X7_drawn_153, e_X7_drawn_155, e_X7_drawn_158, e_X7_drawn_159, e_X7_drawn_162, e_X7_drawn_164, e_X7_drawn_165, e_X7_drawn_167, e_X7_drawn_170, e_X7_drawn_173, e_X7_drawn_176, e_X7_drawn_177, e_X7_drawn_180, e_X7_drawn_181, e_X7_drawn_184, e_X7_drawn_186, e_X7_drawn_187, e_X7_drawn_190, e_X7_drawn_192, e_X7_drawn_194, e_X7_drawn_195, e_X7_drawn_198, e_X7_drawn_200, h7, q2, jm_bd_v, jm_bd_0, bv1, if_false, if_true, not_false_eq_true, not_true_eq_false]
  · have hst := stN q0 hN6
    have hth := thereOf q2
    by_cases hn : ¬ n < nI 0 ∧ ¬ nI 60 < n
    · by_cases hs : ¬ s < nI 1 ∧ ¬ nI 999999 < s
      · by_cases hw : ¬ w < nI 0 ∧ ¬ nI 1 < w
        · obtain ⟨k, -, hk, rfl⟩ := rg_of hn (by omega) (by omega)
          obtain ⟨t, ht1, ht, rfl⟩ := rg_of hs (by omega) (by omega)
          have hl := nI_l (n := t) (by omega)
          have hw2 : w = nI 0 ∨ w = nI 1 := szw hw
          obtain ⟨x1, e1⟩ := lp_X4_years (d := 8) (m := m) (n := k) (sd := nI t) (ta := if w = nI 1 then nI 1 else nI 0) (by omega) k 0 t (becI (vwI m 208) (vwI m 200)) (m 221) (nI 0) (nI 0) (-1) g.bec (by omega) (by omega)
          have hb : jm_K 10 md_X2_become [.ref 208, .ref 200] (jm_mk m) = some (none, jm_mk (wrI m 208 (becI (vwI m 208) (vwI m 200)))) := k_X2_become (by decide) (by decide) (by decide)
          have hc : jm_K 11 md_X4_years [.ref 207, .int (nI k), .int (nI t), .int (if w = nI 1 then nI 1 else nI 0)] (jm_mk m) = some (some (.int (if w = nI 0 then (drR N k t (m 221) (nI 0) (nI 0) (-1)).1 else (drR N k t (m 221) (nI 0) (nI 0) (-1)).2)), jm_mk (wrI m 208 x1)) := by
            show jm_R 11 md_X4_years 0 [.ref 207, .int (nI k), .int (nI t), .int (if w = nI 1 then nI 1 else nI 0), .null, .null, .null, .null, .null, .null] [] _ = _
            simp only [e_X4_years_0, e_X4_years_1, e_X4_years_4, e_X4_years_5, e_X4_years_8, e_X4_years_11, e_X4_years_12, e_X4_years_13, e_X4_years_15, e_X4_years_16, e_X4_years_18, e_X4_years_19, e_X4_years_21, e_X4_years_22, e_X4_years_24, e_X4_years_25, e_X4_years_29, e_X4_years_30, e_X4_years_33, e_X4_years_35, e_X4_years_38, e_X4_years_39, e_X4_years_42, e_X4_years_43, e_X4_years_45, e_X4_years_46, e_X4_years_48, e_X4_years_51, e_X4_years_52, e_X4_years_55, e_X4_years_58, e_X4_years_59, e_X4_years_62, e_X4_years_65, e_X4_years_66, e_X4_years_69, e_X4_years_72, e_X4_years_75, e_X4_years_76, e_X4_years_79, e_X4_years_82, e_X4_years_84, e_X4_years_87, e_X4_years_90, e_X4_years_91, e_X4_years_94, e_X4_years_97, e_X4_years_99, e_X4_years_102, e_X4_years_105, e_X4_years_106, e_X4_years_109, e_X4_years_111, e_X4_years_114, e_X4_years_116, hb, jm_bd_0, hl]
            rw [e1]
            rcases hw2 with rfl | rfl
            · rfl
            · rfl
          refine ⟨.int (if w = nI 0 then (drR N k t (m 221) (nI 0) (nI 0) (-1)).1 else (drR N k t (m 221) (nI 0) (nI 0) (-1)).2), x1, ?_, fun m1 hm => ?_⟩
          · show jm_R 12 md_X6_drawn 0 [.ref 0, .int (nI k), .int (nI t), .int w] [] _ = _
            rcases hw2 with rfl | rfl
            · rw [if_neg (show ¬ nI 0 = nI 1 by decide)] at hc
              simp only [e_X6_drawn_0, e_X6_drawn_1, e_X6_drawn_4, e_X6_drawn_7, e_X6_drawn_10, e_X6_drawn_12, e_X6_drawn_13, e_X6_drawn_14, e_X6_drawn_15, e_X6_drawn_17, e_X6_drawn_20, e_X6_drawn_23, e_X6_drawn_24, e_X6_drawn_25, e_X6_drawn_28, e_X6_drawn_31, e_X6_drawn_34, e_X6_drawn_35, e_X6_drawn_36, e_X6_drawn_37, e_X6_drawn_40, e_X6_drawn_43, e_X6_drawn_45, e_X6_drawn_46, e_X6_drawn_47, e_X6_drawn_50, e_X6_drawn_51, e_X6_drawn_52, e_X6_drawn_53, e_X6_drawn_54, e_X6_drawn_57, e_X6_drawn_58, e_X6_drawn_61, e_X6_drawn_62, e_X6_drawn_65, k_X2_hasBoat hI, k_X2_stands hI, k_X2_hasCell hI, c6, c5, k_X6_within, jm_bd_v, jm_bd_0, bv1, if_false, if_true, not_false_eq_true, not_true_eq_false, hst, if_pos hn, if_pos hs, if_pos hw, show ¬ nI 0 = nI 1 by decide, hc]
            · rw [if_pos rfl] at hc
              simp only [e_X6_drawn_0, e_X6_drawn_1, e_X6_drawn_4, e_X6_drawn_7, e_X6_drawn_10, e_X6_drawn_12, e_X6_drawn_13, e_X6_drawn_14, e_X6_drawn_15, e_X6_drawn_17, e_X6_drawn_20, e_X6_drawn_23, e_X6_drawn_24, e_X6_drawn_25, e_X6_drawn_28, e_X6_drawn_31, e_X6_drawn_34, e_X6_drawn_35, e_X6_drawn_36, e_X6_drawn_37, e_X6_drawn_40, e_X6_drawn_43, e_X6_drawn_45, e_X6_drawn_46, e_X6_drawn_47, e_X6_drawn_50, e_X6_drawn_51, e_X6_drawn_52, e_X6_drawn_53, e_X6_drawn_54, e_X6_drawn_57, e_X6_drawn_58, e_X6_drawn_61, e_X6_drawn_62, e_X6_drawn_65, k_X2_hasBoat hI, k_X2_stands hI, k_X2_hasCell hI, c6, c5, k_X6_within, jm_bd_v, jm_bd_0, bv1, if_false, if_true, not_false_eq_true, not_true_eq_false, hst, if_pos hn, if_pos hs, if_pos hw, hc]
          · have had := q_allHeld (d := 11) (N := N) (m := wrA (wrA m1 226 (cp44 (m 221) (m 226))) 221 (m 221)) (by rw [wrA_at]; exact m4) hN6
            rw [show (fun b => wrA (wrA m1 226 (cp44 (m 221) (m 226))) 221 (m 221) 221 (38 + b)) = (fun b => m 221 (38 + b)) from funext (fun b => wrA_at)] at had
            obtain ⟨x2, y2, l2, t2, e2, g2, e3⟩ := lp_X7_drawn (w := w) (sd := nI t) (had := hSum N (m 221)) (m := m1) (z := cp44 (m 221) (m 226)) (n := k) (by omega) k 0 t (vwI m 200) (m 221) (nI 0) (nI 0) (-1) g (by omega) (by omega)
            have h17 : wrA (wrA m1 226 (m 226)) 221 (m 221) 217 4 = nI 1 := by rw [wrA_ne (by decide), wrA_ne (by decide), hm 217 (by decide)]; exact q2
            have hN2 : y2 4 = nI N := by
              obtain ⟨o, hv, -⟩ := g2
              exact hv.2.1.1
            have had2 := q_allHeld (d := 11) (N := N) (m := wrA (wrA m1 226 (cp44 (m 221) (m 226))) 221 y2) (by rw [wrA_at]; exact hN2) hN6
            rw [show (fun b => wrA (wrA m1 226 (cp44 (m 221) (m 226))) 221 y2 221 (38 + b)) = (fun b => y2 (38 + b)) from funext (fun b => wrA_at)] at had2
            have e4 : hSum N y2 - hSum N (m 221) = (drR N k t (m 221) (nI 0) (nI 0) (-1)).1 := by
              rw [add0] at e3
              rw [e3, Int32.add_comm, Int32.add_sub_cancel]
            refine ⟨cp44 (m 221) (m 226), cp44 (cp44 (m 221) (m 226)) y2, ?_, fun i hi => by rw [cp44_lt hi, cp44_lt hi]⟩
            show jm_R 12 md_X7_drawn 0 [.ref 217, .int (nI k), .int (nI t), .int w, .null, .null, .null, .null, .null, .null] [] _ = _
            have hth' : ¬ wrA (wrA m1 226 (m 226)) 221 (m 221) 217 4 = nI 0 := by rw [h17]; exact bv1
            have hin : ∀ d M, jm_K d md_X7_in [.long (lN t), .long (lN 1), .long (lN 999999)] M = some (some (.int (if ¬ nI t < nI 1 ∧ ¬ nI 999999 < nI t then nI 1 else nI 0)), M) := fun d M => by rw [← hl]; exact in_1_999999
            simp only [e_X7_drawn_0, e_X7_drawn_1, e_X7_drawn_4, e_X7_drawn_7, e_X7_drawn_9, e_X7_drawn_10, e_X7_drawn_11, e_X7_drawn_12, e_X7_drawn_13, e_X7_drawn_16, e_X7_drawn_19, e_X7_drawn_22, e_X7_drawn_23, e_X7_drawn_24, e_X7_drawn_25, e_X7_drawn_28, e_X7_drawn_31, e_X7_drawn_34, e_X7_drawn_35, e_X7_drawn_38, e_X7_drawn_41, e_X7_drawn_43, e_X7_drawn_44, e_X7_drawn_45, e_X7_drawn_48, e_X7_drawn_49, e_X7_drawn_50, e_X7_drawn_52, e_X7_drawn_53, e_X7_drawn_56, e_X7_drawn_58, e_X7_drawn_59, e_X7_drawn_61, e_X7_drawn_62, e_X7_drawn_64, e_X7_drawn_65, e_X7_drawn_69, e_X7_drawn_70, e_X7_drawn_73, e_X7_drawn_75, e_X7_drawn_78, e_X7_drawn_79, e_X7_drawn_82, e_X7_drawn_83, e_X7_drawn_85, e_X7_drawn_86, e_X7_drawn_89, e_X7_drawn_90, e_X7_drawn_92, e_X7_drawn_95, e_X7_drawn_96, e_X7_drawn_97, e_X7_drawn_98, e_X7_drawn_100, e_X7_drawn_103, e_X7_drawn_104, e_X7_drawn_105, e_X7_drawn_106, e_X7_drawn_109, e_X7_drawn_110, e_X7_drawn_113, e_X7_drawn_115, e_X7_drawn_116, e_X7_drawn_117, e_X7_drawn_118, e_X7_drawn_120, e_X7_drawn_121, e_X7_drawn_124, e_X7_drawn_125, e_X7_drawn_126, e_X7_drawn_127, e_X7_drawn_128, e_X7_drawn_129, e_X7_drawn_130, e_X7_drawn_131, e_X7_drawn_132, e_X7_drawn_133, e_X7_drawn_136, e_X7_drawn_137, e_X7_drawn_140, e_X7_drawn_142, e_X7_drawn_143, e_X7_drawn_146, e_X7_drawn_147, e_X7_drawn_150, e_X7_drawn_152, e_X7_drawn_153, e_X7_drawn_155, e_X7_drawn_158, e_X7_drawn_159, e_X7_drawn_162, e_X7_drawn_164, e_X7_drawn_165, e_X7_drawn_167, e_X7_drawn_170, e_X7_drawn_173, e_X7_drawn_176, e_X7_drawn_177, e_X7_drawn_180, e_X7_drawn_181, e_X7_drawn_184, e_X7_drawn_186, e_X7_drawn_187, e_X7_drawn_190, e_X7_drawn_192, e_X7_drawn_194, e_X7_drawn_195, e_X7_drawn_198, e_X7_drawn_200, in_0_60, hin, k_X7_isWhat, jm_bd_v, jm_bd_0, bv1, if_false, if_true, not_false_eq_true, not_true_eq_false, hth', if_pos hn, if_pos hs, if_pos hw, k_X7_putAside, hl, had]
            refine e2.trans ?_
            rcases hw2 with rfl | rfl
            · simp only [e_X7_drawn_0, e_X7_drawn_1, e_X7_drawn_4, e_X7_drawn_7, e_X7_drawn_9, e_X7_drawn_10, e_X7_drawn_11, e_X7_drawn_12, e_X7_drawn_13, e_X7_drawn_16, e_X7_drawn_19, e_X7_drawn_22, e_X7_drawn_23, e_X7_drawn_24, e_X7_drawn_25, e_X7_drawn_28, e_X7_drawn_31, e_X7_drawn_34, e_X7_drawn_35, e_X7_drawn_38, e_X7_drawn_41, e_X7_drawn_43, e_X7_drawn_44, e_X7_drawn_45, e_X7_drawn_48, e_X7_drawn_49, e_X7_drawn_50, e_X7_drawn_52, e_X7_drawn_53, e_X7_drawn_56, e_X7_drawn_58, e_X7_drawn_59, e_X7_drawn_61, e_X7_drawn_62, e_X7_drawn_64, e_X7_drawn_65, e_X7_drawn_69, e_X7_drawn_70, e_X7_drawn_73, e_X7_drawn_75, e_X7_drawn_78, e_X7_drawn_79, e_X7_drawn_82, e_X7_drawn_83, e_X7_drawn_85, e_X7_drawn_86, e_X7_drawn_89, e_X7_drawn_90, e_X7_drawn_92, e_X7_drawn_95, e_X7_drawn_96, e_X7_drawn_97, e_X7_drawn_98, e_X7_drawn_100, e_X7_drawn_103, e_X7_drawn_104, e_X7_drawn_105, e_X7_drawn_106, e_X7_drawn_109, e_X7_drawn_110, e_X7_drawn_113, e_X7_drawn_115, e_X7_drawn_116, e_X7_drawn_117, e_X7_drawn_118, e_X7_drawn_120, e_X7_drawn_121, e_X7_drawn_124, e_X7_drawn_125, e_X7_drawn_126, e_X7_drawn_127, e_X7_drawn_128, e_X7_drawn_129, e_X7_drawn_130, e_X7_drawn_131, e_X7_drawn_132, e_X7_drawn_133, e_X7_drawn_136, e_X7_drawn_137, e_X7_drawn_140, e_X7_drawn_142, e_X7_drawn_143, e_X7_drawn_146, e_X7_drawn_147, e_X7_drawn_150, e_X7_drawn_152, e_X7_drawn_153, e_X7_drawn_155, e_X7_drawn_158, e_X7_drawn_159, e_X7_drawn_162, e_X7_drawn_164, e_X7_drawn_165, e_X7_drawn_167, e_X7_drawn_170, e_X7_drawn_173, e_X7_drawn_176, e_X7_drawn_177, e_X7_drawn_180, e_X7_drawn_181, e_X7_drawn_184, e_X7_drawn_186, e_X7_drawn_187, e_X7_drawn_190, e_X7_drawn_192, e_X7_drawn_194, e_X7_drawn_195, e_X7_drawn_198, e_X7_drawn_200, not_true_eq_false, if_false, if_true, had2, jm_bd_v, jm_bd_0, k_X7_takeBack]
              rw [← e4]
              rfl
            · simp only [e_X7_drawn_0, e_X7_drawn_1, e_X7_drawn_4, e_X7_drawn_7, e_X7_drawn_9, e_X7_drawn_10, e_X7_drawn_11, e_X7_drawn_12, e_X7_drawn_13, e_X7_drawn_16, e_X7_drawn_19, e_X7_drawn_22, e_X7_drawn_23, e_X7_drawn_24, e_X7_drawn_25, e_X7_drawn_28, e_X7_drawn_31, e_X7_drawn_34, e_X7_drawn_35, e_X7_drawn_38, e_X7_drawn_41, e_X7_drawn_43, e_X7_drawn_44, e_X7_drawn_45, e_X7_drawn_48, e_X7_drawn_49, e_X7_drawn_50, e_X7_drawn_52, e_X7_drawn_53, e_X7_drawn_56, e_X7_drawn_58, e_X7_drawn_59, e_X7_drawn_61, e_X7_drawn_62, e_X7_drawn_64, e_X7_drawn_65, e_X7_drawn_69, e_X7_drawn_70, e_X7_drawn_73, e_X7_drawn_75, e_X7_drawn_78, e_X7_drawn_79, e_X7_drawn_82, e_X7_drawn_83, e_X7_drawn_85, e_X7_drawn_86, e_X7_drawn_89, e_X7_drawn_90, e_X7_drawn_92, e_X7_drawn_95, e_X7_drawn_96, e_X7_drawn_97, e_X7_drawn_98, e_X7_drawn_100, e_X7_drawn_103, e_X7_drawn_104, e_X7_drawn_105, e_X7_drawn_106, e_X7_drawn_109, e_X7_drawn_110, e_X7_drawn_113, e_X7_drawn_115, e_X7_drawn_116, e_X7_drawn_117, e_X7_drawn_118, e_X7_drawn_120, e_X7_drawn_121, e_X7_drawn_124, e_X7_drawn_125, e_X7_drawn_126, e_X7_drawn_127, e_X7_drawn_128, e_X7_drawn_129, e_X7_drawn_130, e_X7_drawn_131, e_X7_drawn_132, e_X7_drawn_133, e_X7_drawn_136, e_X7_drawn_137, e_X7_drawn_140, e_X7_drawn_142, e_X7_drawn_143, e_X7_drawn_146, e_X7_drawn_147, e_X7_drawn_150, e_X7_drawn_152, e_X7_drawn_153, e_X7_drawn_155, e_X7_drawn_158, e_X7_drawn_159, e_X7_drawn_162, e_X7_drawn_164, e_X7_drawn_165, e_X7_drawn_167, e_X7_drawn_170, e_X7_drawn_173, e_X7_drawn_176, e_X7_drawn_177, e_X7_drawn_180, e_X7_drawn_181, e_X7_drawn_184, e_X7_drawn_186, e_X7_drawn_187, e_X7_drawn_190, e_X7_drawn_192, e_X7_drawn_194, e_X7_drawn_195, e_X7_drawn_198, e_X7_drawn_200, bv1, not_false_eq_true, if_false, if_true, jm_bd_v, jm_bd_0, k_X7_takeBack]
        · refine Api.no (r := .int (-1000001)) ?_ (fun m' h7 h1 => ?_)
          · show jm_R 12 md_X6_drawn 0 [.ref 0, .int n, .int s, .int w] [] _ = _
            simp only [e_X6_drawn_0, e_X6_drawn_1, e_X6_drawn_4, e_X6_drawn_7, e_X6_drawn_10, e_X6_drawn_12, e_X6_drawn_13, e_X6_drawn_14, e_X6_drawn_15, e_X6_drawn_17, e_X6_drawn_20, e_X6_drawn_23, e_X6_drawn_24, e_X6_drawn_25, e_X6_drawn_28, e_X6_drawn_31, e_X6_drawn_34, e_X6_drawn_35, e_X6_drawn_36, e_X6_drawn_37, e_X6_drawn_40, e_X6_drawn_43, e_X6_drawn_45, e_X6_drawn_46, e_X6_drawn_47, e_X6_drawn_50, e_X6_drawn_51, e_X6_drawn_52, e_X6_drawn_53, e_X6_drawn_54, e_X6_drawn_57, e_X6_drawn_58, e_X6_drawn_61, e_X6_drawn_62, e_X6_drawn_65, k_X2_hasBoat hI, k_X2_stands hI, k_X2_hasCell hI, c6, c5, k_X6_within, jm_bd_v, jm_bd_0, bv1, if_false, if_true, not_false_eq_true, not_true_eq_false, hst, if_pos hn, if_pos hs, if_neg hw]
          · show jm_R 12 md_X7_drawn 0 [.ref 217, .int n, .int s, .int w, .null, .null, .null, .null, .null, .null] [] _ = _
            simp only [e_X7_drawn_0, e_X7_drawn_1, e_X7_drawn_4, e_X7_drawn_7, e_X7_drawn_9, e_X7_drawn_10, e_X7_drawn_11, e_X7_drawn_12, e_X7_drawn_13, e_X7_drawn_16, e_X7_drawn_19, e_X7_drawn_22, e_X7_drawn_23, e_X7_drawn_24, e_X7_drawn_25, e_X7_drawn_28, e_X7_drawn_31, e_X7_drawn_34, e_X7_drawn_35, e_X7_drawn_38, e_X7_drawn_41, e_X7_drawn_43, e_X7_drawn_44, e_X7_drawn_45, e_X7_drawn_48, e_X7_drawn_49, e_X7_drawn_50, e_X7_drawn_52, e_X7_drawn_53, e_X7_drawn_56, e_X7_drawn_58, e_X7_drawn_59, e_X7_drawn_61, e_X7_drawn_62, e_X7_drawn_64, e_X7_drawn_65, e_X7_drawn_69, e_X7_drawn_70, e_X7_drawn_73, e_X7_drawn_75, e_X7_drawn_78, e_X7_drawn_79, e_X7_drawn_82, e_X7_drawn_83, e_X7_drawn_85, e_X7_drawn_86, e_X7_drawn_89, e_X7_drawn_90, e_X7_drawn_92, e_X7_drawn_95, e_X7_drawn_96, e_X7_drawn_97, e_X7_drawn_98, e_X7_drawn_100, e_X7_drawn_103, e_X7_drawn_104, e_X7_drawn_105, e_X7_drawn_106, e_X7_drawn_109, e_X7_drawn_110, e_X7_drawn_113, e_X7_drawn_115, e_X7_drawn_116, e_X7_drawn_117, e_X7_drawn_118, e_X7_drawn_120, e_X7_drawn_121, e_X7_drawn_124, e_X7_drawn_125, e_X7_drawn_126, e_X7_drawn_127, e_X7_drawn_128, e_X7_drawn_129, e_X7_drawn_130, e_X7_drawn_131, e_X7_drawn_132, e_X7_drawn_133, e_X7_drawn_136, e_X7_drawn_137, e_X7_drawn_140, e_X7_drawn_142, e_X7_drawn_143, e_X7_drawn_146, e_X7_drawn_147, e_X7_drawn_150, e_X7_drawn_152, e_X7_drawn_153, e_X7_drawn_155, e_X7_drawn_158, e_X7_drawn_159, e_X7_drawn_162, e_X7_drawn_164, e_X7_drawn_165, e_X7_drawn_167, e_X7_drawn_170, e_X7_drawn_173, e_X7_drawn_176, e_X7_drawn_177, e_X7_drawn_180, e_X7_drawn_181, e_X7_drawn_184, e_X7_drawn_186, e_X7_drawn_187, e_X7_drawn_190, e_X7_drawn_192, e_X7_drawn_194, e_X7_drawn_195, e_X7_drawn_198, e_X7_drawn_200, in_0_60, in_1_999999, k_X7_isWhat, h7, hth, jm_bd_v, jm_bd_0, bv1, if_false, if_true, not_false_eq_true, not_true_eq_false, if_pos hn, if_pos hs, if_neg hw]
      · refine Api.no (r := .int (-1000001)) ?_ (fun m' h7 h1 => ?_)
        · show jm_R 12 md_X6_drawn 0 [.ref 0, .int n, .int s, .int w] [] _ = _
          simp only [e_X6_drawn_0, e_X6_drawn_1, e_X6_drawn_4, e_X6_drawn_7, e_X6_drawn_10, e_X6_drawn_12, e_X6_drawn_13, e_X6_drawn_14, e_X6_drawn_15, e_X6_drawn_17, e_X6_drawn_20, e_X6_drawn_23, e_X6_drawn_24, e_X6_drawn_25, e_X6_drawn_28, e_X6_drawn_31, e_X6_drawn_34, e_X6_drawn_35, e_X6_drawn_36, e_X6_drawn_37, e_X6_drawn_40, e_X6_drawn_43, e_X6_drawn_45, e_X6_drawn_46, e_X6_drawn_47, e_X6_drawn_50, e_X6_drawn_51, e_X6_drawn_52, e_X6_drawn_53, e_X6_drawn_54, e_X6_drawn_57, e_X6_drawn_58, e_X6_drawn_61, e_X6_drawn_62, e_X6_drawn_65, k_X2_hasBoat hI, k_X2_stands hI, k_X2_hasCell hI, c6, c5, k_X6_within, jm_bd_v, jm_bd_0, bv1, if_false, if_true, not_false_eq_true, not_true_eq_false, hst, if_pos hn, if_neg hs]
        · show jm_R 12 md_X7_drawn 0 [.ref 217, .int n, .int s, .int w, .null, .null, .null, .null, .null, .null] [] _ = _
          simp only [e_X7_drawn_0, e_X7_drawn_1, e_X7_drawn_4, e_X7_drawn_7, e_X7_drawn_9, e_X7_drawn_10, e_X7_drawn_11, e_X7_drawn_12, e_X7_drawn_13, e_X7_drawn_16, e_X7_drawn_19, e_X7_drawn_22, e_X7_drawn_23, e_X7_drawn_24, e_X7_drawn_25, e_X7_drawn_28, e_X7_drawn_31, e_X7_drawn_34, e_X7_drawn_35, e_X7_drawn_38, e_X7_drawn_41, e_X7_drawn_43, e_X7_drawn_44, e_X7_drawn_45, e_X7_drawn_48, e_X7_drawn_49, e_X7_drawn_50, e_X7_drawn_52, e_X7_drawn_53, e_X7_drawn_56, e_X7_drawn_58, e_X7_drawn_59, e_X7_drawn_61, e_X7_drawn_62, e_X7_drawn_64, e_X7_drawn_65, e_X7_drawn_69, e_X7_drawn_70, e_X7_drawn_73, e_X7_drawn_75, e_X7_drawn_78, e_X7_drawn_79, e_X7_drawn_82, e_X7_drawn_83, e_X7_drawn_85, e_X7_drawn_86, e_X7_drawn_89, e_X7_drawn_90, e_X7_drawn_92, e_X7_drawn_95, e_X7_drawn_96, e_X7_drawn_97, e_X7_drawn_98, e_X7_drawn_100, e_X7_drawn_103, e_X7_drawn_104, e_X7_drawn_105, e_X7_drawn_106, e_X7_drawn_109, e_X7_drawn_110, e_X7_drawn_113, e_X7_drawn_115, e_X7_drawn_116, e_X7_drawn_117, e_X7_drawn_118, e_X7_drawn_120, e_X7_drawn_121, e_X7_drawn_124, e_X7_drawn_125, e_X7_drawn_126, e_X7_drawn_127, e_X7_drawn_128, e_X7_drawn_129, e_X7_drawn_130, e_X7_drawn_131, e_X7_drawn_132, e_X7_drawn_133, e_X7_drawn_136, e_X7_drawn_137, e_X7_drawn_140, e_X7_drawn_142, e_X7_drawn_143, e_X7_drawn_146, e_X7_drawn_147, e_X7_drawn_150, e_X7_drawn_152, e_X7_drawn_153, e_X7_drawn_155, e_X7_drawn_158, e_X7_drawn_159, e_X7_drawn_162, e_X7_drawn_164, e_X7_drawn_165, e_X7_drawn_167, e_X7_drawn_170, e_X7_drawn_173, e_X7_drawn_176, e_X7_drawn_177, e_X7_drawn_180, e_X7_drawn_181, e_X7_drawn_184, e_X7_drawn_186, e_X7_drawn_187, e_X7_drawn_190, e_X7_drawn_192, e_X7_drawn_194, e_X7_drawn_195, e_X7_drawn_198, e_X7_drawn_200, in_0_60, in_1_999999, h7, hth, jm_bd_v, jm_bd_0, bv1, if_false, if_true, not_false_eq_true, not_true_eq_false, if_pos hn, if_neg hs]
    · refine Api.no (r := .int (-1000001)) ?_ (fun m' h7 h1 => ?_)
      · show jm_R 12 md_X6_drawn 0 [.ref 0, .int n, .int s, .int w] [] _ = _
        simp only [e_X6_drawn_0, e_X6_drawn_1, e_X6_drawn_4, e_X6_drawn_7, e_X6_drawn_10, e_X6_drawn_12, e_X6_drawn_13, e_X6_drawn_14, e_X6_drawn_15, e_X6_drawn_17, e_X6_drawn_20, e_X6_drawn_23, e_X6_drawn_24, e_X6_drawn_25, e_X6_drawn_28, e_X6_drawn_31, e_X6_drawn_34, e_X6_drawn_35, e_X6_drawn_36, e_X6_drawn_37, e_X6_drawn_40, e_X6_drawn_43, e_X6_drawn_45, e_X6_drawn_46, e_X6_drawn_47, e_X6_drawn_50, e_X6_drawn_51, e_X6_drawn_52, e_X6_drawn_53, e_X6_drawn_54, e_X6_drawn_57, e_X6_drawn_58, e_X6_drawn_61, e_X6_drawn_62, e_X6_drawn_65, k_X2_hasBoat hI, k_X2_stands hI, k_X2_hasCell hI, c6, c5, k_X6_within, jm_bd_v, jm_bd_0, bv1, if_false, if_true, not_false_eq_true, not_true_eq_false, hst, if_neg hn]
      · show jm_R 12 md_X7_drawn 0 [.ref 217, .int n, .int s, .int w, .null, .null, .null, .null, .null, .null] [] _ = _
        simp only [e_X7_drawn_0, e_X7_drawn_1, e_X7_drawn_4, e_X7_drawn_7, e_X7_drawn_9, e_X7_drawn_10, e_X7_drawn_11, e_X7_drawn_12, e_X7_drawn_13, e_X7_drawn_16, e_X7_drawn_19, e_X7_drawn_22, e_X7_drawn_23, e_X7_drawn_24, e_X7_drawn_25, e_X7_drawn_28, e_X7_drawn_31, e_X7_drawn_34, e_X7_drawn_35, e_X7_drawn_38, e_X7_drawn_41, e_X7_drawn_43, e_X7_drawn_44, e_X7_drawn_45, e_X7_drawn_48, e_X7_drawn_49, e_X7_drawn_50, e_X7_drawn_52, e_X7_drawn_53, e_X7_drawn_56, e_X7_drawn_58, e_X7_drawn_59, e_X7_drawn_61, e_X7_drawn_62, e_X7_drawn_64, e_X7_drawn_65, e_X7_drawn_69, e_X7_drawn_70, e_X7_drawn_73, e_X7_drawn_75, e_X7_drawn_78, e_X7_drawn_79, e_X7_drawn_82, e_X7_drawn_83, e_X7_drawn_85, e_X7_drawn_86, e_X7_drawn_89, e_X7_drawn_90, e_X7_drawn_92, e_X7_drawn_95, e_X7_drawn_96, e_X7_drawn_97, e_X7_drawn_98, e_X7_drawn_100, e_X7_drawn_103, e_X7_drawn_104, e_X7_drawn_105, e_X7_drawn_106, e_X7_drawn_109, e_X7_drawn_110, e_X7_drawn_113, e_X7_drawn_115, e_X7_drawn_116, e_X7_drawn_117, e_X7_drawn_118, e_X7_drawn_120, e_X7_drawn_121, e_X7_drawn_124, e_X7_drawn_125, e_X7_drawn_126, e_X7_drawn_127, e_X7_drawn_128, e_X7_drawn_129, e_X7_drawn_130, e_X7_drawn_131, e_X7_drawn_132, e_X7_drawn_133, e_X7_drawn_136, e_X7_drawn_137, e_X7_drawn_140, e_X7_drawn_142, e_X7_drawn_143, e_X7_drawn_146, e_X7_drawn_147, e_X7_drawn_150, e_X7_drawn_152, e_X7_drawn_153, e_X7_drawn_155, e_X7_drawn_158, e_X7_drawn_159, e_X7_drawn_162, e_X7_drawn_164, e_X7_drawn_165, e_X7_drawn_167, e_X7_drawn_170, e_X7_drawn_173, e_X7_drawn_176, e_X7_drawn_177, e_X7_drawn_180, e_X7_drawn_181, e_X7_drawn_184, e_X7_drawn_186, e_X7_drawn_187, e_X7_drawn_190, e_X7_drawn_192, e_X7_drawn_194, e_X7_drawn_195, e_X7_drawn_198, e_X7_drawn_200, in_0_60, h7, hth, jm_bd_v, jm_bd_0, bv1, if_false, if_true, not_false_eq_true, not_true_eq_false, if_neg hn]
