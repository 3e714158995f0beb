/-! hours -/
def jn (mc mm : Nat → Nat → Int32) : Nat → Nat → Int32 := fun a => if a < 217 then mc a else mm a
theorem jn_lo {mc mm : Nat → Nat → Int32} {a : Nat} (h : a < 217) : jn mc mm a = mc a := if_pos h
theorem jn_hi {mc mm : Nat → Nat → Int32} {a : Nat} (h : ¬ a < 217) : jn mc mm a = mm a := if_neg h
theorem GN.congrx {C N : Nat} {x x' : Nat → Nat → Int32} {y : Nat → Int32} (h : ∀ r, r < 7 → x' r = x r) (g : GN C N x y) : GN C N x' y := by
  obtain ⟨o, hv, hr⟩ := g
  exact ⟨o, hv, IR_congrx h hr⟩
def HC (m : Nat → Nat → Int32) (e k : Nat) : Nat → Nat → Int32 := wrI (kpC m e k) 200 (pasS (vwI (kpC m e k) 200))
def HM (m : Nat → Nat → Int32) (k : Nat) : Nat → Nat → Int32 := wrA (noM m k) 221 (ohS (m 221))
theorem HC_o {m : Nat → Nat → Int32} {e k a : Nat} (h : ¬ (200 ≤ a ∧ a < 207)) : HC m e k a = kpC m e k a := by
  unfold HC
  funext j
  unfold wrI
  rw [if_neg h]
theorem HC_i {m : Nat → Nat → Int32} {e k r : Nat} (h : r < 7) : HC m e k (200 + r) = pasS (vwI (kpC m e k) 200) r := by
  unfold HC
  funext j
  exact wrI_r r h
theorem HM_lo {m : Nat → Nat → Int32} {k a : Nat} (h : a < 217) : HM m k a = m a := by
  unfold HM
  rw [wrA_ne (by omega), noM_o (by omega) (by omega)]
theorem HM_hi {m m' : Nat → Nat → Int32} {k : Nat} (h : ∀ a, 217 ≤ a → m' a = m a) : ∀ a, 217 ≤ a → HM m' k a = HM m k a := by
  intro a ha
  unfold HM noM
  rw [h 221 (by decide), h 225 (by decide)]
  by_cases q : a = 221
  · subst q; rw [wrA_fn, wrA_fn]
  · rw [wrA_ne q, wrA_ne q]
    by_cases p : a = 225
    · subst p; rw [wrA_fn, wrA_fn]
    · rw [wrA_ne p, wrA_ne p]
      funext j
      unfold jm_up
      rw [h a ha]
theorem Rel.hour {mc mm : Nat → Nat → Int32} {e k C N : Nat} (hR : Rel (jn mc mm)) (he : e < 24) (hk : k ≤ 24) (h15 : mc 15 1 = nI e) (h25 : mc 15 2 = nI k) (hth : mm 217 4 = nI 1) (g : GN C N (vwI (kpC mc e k) 200) (mm 221)) : Rel (jn (HC mc e k) (HM mm k)) := by
  have lo : ∀ a, a < 217 → ¬ (200 ≤ a ∧ a < 207) → jn (HC mc e k) (HM mm k) a = kpC mc e k a := fun a ha hb => by rw [jn_lo ha, HC_o hb]
  have hi : ∀ a, ¬ a < 217 → a ≠ 217 → a ≠ 225 → a ≠ 221 → jn (HC mc e k) (HM mm k) a = mm a := fun a ha h1 h2 h3 => by
    rw [jn_hi ha]
    unfold HM
    rw [wrA_ne h3, noM_o h1 h2]
  refine Rel.act hR he hk (by rw [jn_lo (by decide)]; exact h15) (by rw [jn_lo (by decide)]; exact h25) (by rw [jn_hi (by decide)]; exact hth) g.step (fun a h1 h2 h3 h4 h5 h6 h7 => ?_) (fun j' hj => ?_) ?_ ?_ ?_ (fun r' hr' => ?_) (fun j' hj' => ?_) (fun a h1 h2 h3 => ?_) (fun r' hr' => ?_) (fun j' => ?_)
  · by_cases q : a < 217
    · rw [lo a q h2, kpC_o (by omega) (by omega), jn_lo q]
    · rw [hi a q h4 h6 h5, jn_hi q]
  · rw [jn_hi (by decide), jn_hi (by decide)]
    unfold HM
    rw [wrA_ne (by decide), noM_7 hj]
  · rw [jn_hi (by decide)]
    unfold HM
    rw [wrA_ne (by decide), noM_17]
  · rw [lo 15 (by decide) (by decide), kpC_151]
  · rw [lo 15 (by decide) (by decide), kpC_152]
  · rw [jn_lo (by omega), HC_i hr']
  · rw [jn_hi (by decide)]
    unfold HM
    rw [wrA_at]
  · rw [lo a (by omega) (by omega), kpC_o (by omega) (by omega), jn_lo (by omega)]
  · rw [lo _ (by omega) (by omega), kpC_n hr']
    funext j
    unfold becI
    rw [show vwI (jn mc mm) (17 + 7 * e) r' = vwI mc (17 + 7 * e) r' from jn_lo (by omega), show vwI (jn mc mm) (17 + 7 * e) 0 = vwI mc (17 + 7 * e) 0 from jn_lo (by omega), show vwI (jn mc mm) 200 r' = vwI mc 200 r' from jn_lo (by omega), show vwI (jn mc mm) 200 0 = vwI mc 200 0 from jn_lo (by omega)]
  · rw [jn_hi (by decide), jn_hi (by decide), jn_hi (by decide)]
    unfold HM
    rw [wrA_ne (by decide), noM_225]
theorem lp_hours {n : Nat} (hn : n < 1000) : ∀ (k' c : Nat) (mc mm : Nat → Nat → Int32), Rel (jn mc mm) → mm 217 4 = nI 1 → c + k' = n → ∃ (v : Int32) (mc' : Nat → Nat → Int32), jm_R 12 md_X6_hours 46 [.ref 0, .int (nI n), .int (nI c)] [] (jm_mk mc) = some (some (.int v), jm_mk mc') ∧ (∀ a, 217 ≤ a → mc' a = mc a) ∧ ∀ mm0 : Nat → Nat → Int32, (∀ a, 217 ≤ a → mm0 a = mm a) → ∃ mm' : Nat → Nat → Int32, jm_R 12 md_X7_hours 44 [.ref 217, .int (nI n), .int (nI c)] [] (jm_mk mm0) = some (some (.int v), jm_mk mm') ∧ (∀ a, a < 217 → mm' a = mm0 a) ∧ Rel (jn mc' mm') := by
  have hI : jm_ia 200 = true := by decide
  intro k'
  induction k' with
  | zero =>
    intro c mc mm hR hth h
    have h1 : nI n ≤ nI c := nI_le (by omega) (by omega)
    obtain ⟨C, N, hC6, hN6, c6, m4, c5, m3, hcase⟩ := hR.isle
    rcases hcase with ⟨q0, q1, q2⟩ | ⟨q0, q2, g⟩
    · rw [jn_hi (by decide), hth] at q2; exact absurd q2 bv1
    have g := g.congrx (x' := vwI mc 200) (fun r hr => by
      show mc (200 + r) = jn mc mm (200 + r)
      rw [jn_lo (by omega)])
    rw [jn_hi (by decide)] at g
    obtain ⟨eo, -⟩ := g.owner
    refine ⟨if mm 221 7 = -1 then -1000000 else mm 221 7, mc, ?_, fun _ _ => rfl, fun mm0 hm => ⟨mm0, ?_, fun _ _ => rfl, ?_⟩⟩
    · rw [e_X6_hours_46]
      have eo : mc 200 4 = mm 221 7 := eo
      simp only [e_X6_hours_0, e_X6_hours_1, e_X6_hours_4, e_X6_hours_7, e_X6_hours_10, e_X6_hours_12, e_X6_hours_13, e_X6_hours_14, e_X6_hours_15, e_X6_hours_17, e_X6_hours_20, e_X6_hours_23, e_X6_hours_25, e_X6_hours_26, e_X6_hours_27, e_X6_hours_30, e_X6_hours_33, e_X6_hours_34, e_X6_hours_35, e_X6_hours_38, e_X6_hours_41, e_X6_hours_43, e_X6_hours_44, e_X6_hours_45, e_X6_hours_47, e_X6_hours_48, e_X6_hours_51, e_X6_hours_52, e_X6_hours_55, e_X6_hours_56, e_X6_hours_59, e_X6_hours_62, e_X6_hours_63, e_X6_hours_66, e_X6_hours_69, e_X6_hours_72, e_X6_hours_75, e_X6_hours_76, e_X6_hours_79, e_X6_hours_82, e_X6_hours_85, h1, if_true, hI, eo, k_X6_boatOrNone, jm_bd_v]
    · have hs : mm0 = wrA mm0 221 (mm 221) := by rw [← hm 221 (by decide), wrA_self]
      rw [e_X7_hours_44]
      conv => lhs; rw [hs]
      conv => rhs; rw [hs]
      simp only [e_X7_hours_0, e_X7_hours_1, e_X7_hours_4, e_X7_hours_7, e_X7_hours_9, e_X7_hours_10, e_X7_hours_11, e_X7_hours_12, e_X7_hours_13, e_X7_hours_16, e_X7_hours_19, e_X7_hours_22, e_X7_hours_24, e_X7_hours_25, e_X7_hours_26, e_X7_hours_29, e_X7_hours_30, e_X7_hours_31, e_X7_hours_32, e_X7_hours_33, e_X7_hours_36, e_X7_hours_39, e_X7_hours_41, e_X7_hours_42, e_X7_hours_43, e_X7_hours_45, e_X7_hours_46, e_X7_hours_49, e_X7_hours_50, e_X7_hours_53, e_X7_hours_54, e_X7_hours_57, e_X7_hours_60, e_X7_hours_63, e_X7_hours_64, e_X7_hours_67, h1, if_true, g_ownerNow g, jm_bd_v]
    · have : jn mc mm0 = jn mc mm := by
        funext a
        unfold jn
        by_cases q : a < 217
        · rw [if_pos q, if_pos q]
        · rw [if_neg q, if_neg q, hm a (by omega)]
      rw [this]
      exact hR
  | succ k' ih =>
    intro c mc mm hR hth h
    have h1 : ¬ nI n ≤ nI c := nI_ge (by omega) (by omega)
    obtain ⟨C, N, hC6, hN6, c6, m4, c5, m3, hcase⟩ := hR.isle
    rcases hcase with ⟨q0, q1, q2⟩ | ⟨q0, q2, g⟩
    · rw [jn_hi (by decide), hth] at q2; exact absurd q2 bv1
    obtain ⟨e, k, he, hk, h15, h25, h17⟩ := hR.ek
    rw [jn_lo (by decide)] at h15 h25
    rw [jn_hi (by decide)] at h17
    have g := g.congrx (x' := vwI (kpC mc e k) 200) (fun r hr => by
      show kpC mc e k (200 + r) = jn mc mm (200 + r)
      rw [kpC_hi he (by omega), jn_lo (by omega)])
    rw [jn_hi (by decide)] at g
    have hR' := hR.hour he hk h15 h25 hth g
    have hth' : HM mm k 217 4 = nI 1 := by
      unfold HM
      rw [wrA_ne (by decide), noM_7 (by decide)]
      exact hth
    obtain ⟨v, mc', e1, e2, e3⟩ := ih (c + 1) (HC mc e k) (HM mm k) hR' hth' (by omega)
    refine ⟨v, mc', ?_, fun a ha => ?_, fun mm0 hm => ?_⟩
    · have hp := p_X2_pass (d := 9) (m := kpC mc e k) (x := vwI (kpC mc e k) 200) hI g.gx
      rw [wrI_self] at hp
      rw [e_X6_hours_46]
      simp only [e_X6_hours_0, e_X6_hours_1, e_X6_hours_4, e_X6_hours_7, e_X6_hours_10, e_X6_hours_12, e_X6_hours_13, e_X6_hours_14, e_X6_hours_15, e_X6_hours_17, e_X6_hours_20, e_X6_hours_23, e_X6_hours_25, e_X6_hours_26, e_X6_hours_27, e_X6_hours_30, e_X6_hours_33, e_X6_hours_34, e_X6_hours_35, e_X6_hours_38, e_X6_hours_41, e_X6_hours_43, e_X6_hours_44, e_X6_hours_45, e_X6_hours_47, e_X6_hours_48, e_X6_hours_51, e_X6_hours_52, e_X6_hours_55, e_X6_hours_56, e_X6_hours_59, e_X6_hours_62, e_X6_hours_63, e_X6_hours_66, e_X6_hours_69, e_X6_hours_72, e_X6_hours_75, e_X6_hours_76, e_X6_hours_79, e_X6_hours_82, e_X6_hours_85, h1, if_false, k_X0_keep he hk h15 h25, jm_bd_0, hp, nI_add]
      exact e1
    · rw [e2 a ha, HC_o (by omega), kpC_hi he (by omega)]
    · obtain ⟨mm', f1, f2, f3⟩ := e3 (HM mm0 k) (HM_hi hm)
      refine ⟨mm', ?_, fun a ha => by rw [f2 a ha, HM_lo ha], f3⟩
      have h17' : mm0 217 17 = nI k := by rw [hm 217 (by decide)]; exact h17
      have n221 : noM mm0 k 221 = mm 221 := by rw [noM_o (by decide) (by decide), hm 221 (by decide)]
      have hs : noM mm0 k = wrA (noM mm0 k) 221 (mm 221) := by rw [← n221, wrA_self]
      have ho := p_X7_oneHour (d := 8) (m := noM mm0 k) g.gx.y
      rw [← hs] at ho
      have hH : HM mm0 k = wrA (noM mm0 k) 221 (ohS (mm 221)) := by unfold HM; rw [hm 221 (by decide)]
      rw [hH] at f1
      rw [e_X7_hours_44]
      simp only [e_X7_hours_0, e_X7_hours_1, e_X7_hours_4, e_X7_hours_7, e_X7_hours_9, e_X7_hours_10, e_X7_hours_11, e_X7_hours_12, e_X7_hours_13, e_X7_hours_16, e_X7_hours_19, e_X7_hours_22, e_X7_hours_24, e_X7_hours_25, e_X7_hours_26, e_X7_hours_29, e_X7_hours_30, e_X7_hours_31, e_X7_hours_32, e_X7_hours_33, e_X7_hours_36, e_X7_hours_39, e_X7_hours_41, e_X7_hours_42, e_X7_hours_43, e_X7_hours_45, e_X7_hours_46, e_X7_hours_49, e_X7_hours_50, e_X7_hours_53, e_X7_hours_54, e_X7_hours_57, e_X7_hours_60, e_X7_hours_63, e_X7_hours_64, e_X7_hours_67, h1, if_false, k_X7_note hk h17', jm_bd_0, ho, nI_add]
      exact f1
theorem jn_self {m : Nat → Nat → Int32} : jn m m = m := by
  funext a
  unfold jn
  by_cases q : a < 217
  · rw [if_pos q]
  · rw [if_neg q]
theorem api_hours (n : Int32) : Api md_X6_hours md_X7_hours [.int n] := by
  intro m hR
  obtain ⟨C, N, hC6, hN6, c6, m4, c5, m3, hcase⟩ := hR.isle
  have hI : jm_ia 200 = true := by decide
  rcases hcase with ⟨q0, q1, q2⟩ | ⟨q0, q2, g⟩
  · subst q0
    refine Api.bad hR (r := .int (-1000002)) ?_ ?_
    · show jm_R 12 md_X6_hours 0 [.ref 0, .int n, .null] [] _ = _
      simp only [e_X6_hours_0, e_X6_hours_1, e_X6_hours_4, e_X6_hours_7, e_X6_hours_10, e_X6_hours_12, e_X6_hours_13, e_X6_hours_14, e_X6_hours_15, e_X6_hours_17, e_X6_hours_20, e_X6_hours_23, e_X6_hours_25, e_X6_hours_26, e_X6_hours_27, e_X6_hours_30, e_X6_hours_33, e_X6_hours_34, e_X6_hours_35, e_X6_hours_38, e_X6_hours_41, e_X6_hours_43, e_X6_hours_44, e_X6_hours_45, e_X6_hours_47, e_X6_hours_48, e_X6_hours_51, e_X6_hours_52, e_X6_hours_55, e_X6_hours_56, e_X6_hours_59, e_X6_hours_62, e_X6_hours_63, e_X6_hours_66, e_X6_hours_69, e_X6_hours_72, e_X6_hours_75, e_X6_hours_76, e_X6_hours_79, e_X6_hours_82, e_X6_hours_85, k_X2_hasBoat hI, k_X2_stands hI, k_X2_hasCell hI, c6, c5, k_X6_within, jm_bd_v, jm_bd_0, bv1, if_false, if_true, not_false_eq_true, not_true_eq_false, nI_le (Nat.le_refl 0) (show 0 < 2 ^ 31 by decide)]
    · show jm_R 12 md_X7_hours 0 [.ref 217, .int n, .null] [] _ = _
      simp only [e_X7_hours_0, e_X7_hours_1, e_X7_hours_4, e_X7_hours_7, e_X7_hours_9, e_X7_hours_10, e_X7_hours_11, e_X7_hours_12, e_X7_hours_13, e_X7_hours_16, e_X7_hours_19, e_X7_hours_22, e_X7_hours_24, e_X7_hours_25, e_X7_hours_26, e_X7_hours_29, e_X7_hours_30, e_X7_hours_31, e_X7_hours_32, e_X7_hours_33, e_X7_hours_36, e_X7_hours_39, e_X7_hours_41, e_X7_hours_42, e_X7_hours_43, e_X7_hours_45, e_X7_hours_46, e_X7_hours_49, e_X7_hours_50, e_X7_hours_53, e_X7_hours_54, e_X7_hours_57, e_X7_hours_60, e_X7_hours_63, e_X7_hours_64, e_X7_hours_67, q2, jm_bd_v, jm_bd_0, bv1, if_false, if_true, not_false_eq_true, not_true_eq_false]
  · have hst := stN q0 hN6
    have hth := thereOf q2
    have eh : m 200 3 = m 221 5 := by obtain ⟨o, hv, hr⟩ := g; exact hr.1.2.2.2.1
    by_cases hn : ¬ n < nI 1 ∧ ¬ nI 24 < n
    · by_cases hf : m 221 5 + n ≤ nI 999
      · obtain ⟨k, hk1, hk24, rfl⟩ := rg_of hn (by omega) (by omega)
        obtain ⟨v, mc', e1, e2, e3⟩ := lp_hours (n := k) (by omega) k 0 m m (by rw [jn_self]; exact hR) q2 (by omega)
        obtain ⟨mm', f1, f2, f3⟩ := e3 mc' e2
        refine ⟨.int v, mc', mm', ?_, ?_, ?_⟩
        · show jm_R 12 md_X6_hours 0 [.ref 0, .int (nI k), .null] [] _ = _
          simp only [e_X6_hours_0, e_X6_hours_1, e_X6_hours_4, e_X6_hours_7, e_X6_hours_10, e_X6_hours_12, e_X6_hours_13, e_X6_hours_14, e_X6_hours_15, e_X6_hours_17, e_X6_hours_20, e_X6_hours_23, e_X6_hours_25, e_X6_hours_26, e_X6_hours_27, e_X6_hours_30, e_X6_hours_33, e_X6_hours_34, e_X6_hours_35, e_X6_hours_38, e_X6_hours_41, e_X6_hours_43, e_X6_hours_44, e_X6_hours_45, e_X6_hours_47, e_X6_hours_48, e_X6_hours_51, e_X6_hours_52, e_X6_hours_55, e_X6_hours_56, e_X6_hours_59, e_X6_hours_62, e_X6_hours_63, e_X6_hours_66, e_X6_hours_69, e_X6_hours_72, e_X6_hours_75, e_X6_hours_76, e_X6_hours_79, e_X6_hours_82, e_X6_hours_85, k_X2_hasBoat hI, k_X2_stands hI, k_X2_hasCell hI, c6, c5, k_X6_within, jm_bd_v, jm_bd_0, bv1, if_false, if_true, not_false_eq_true, not_true_eq_false, hst, if_pos hn, hI, eh, if_pos hf]
          exact e1
        · show jm_R 12 md_X7_hours 0 [.ref 217, .int (nI k), .null] [] _ = _
          simp only [e_X7_hours_0, e_X7_hours_1, e_X7_hours_4, e_X7_hours_7, e_X7_hours_9, e_X7_hours_10, e_X7_hours_11, e_X7_hours_12, e_X7_hours_13, e_X7_hours_16, e_X7_hours_19, e_X7_hours_22, e_X7_hours_24, e_X7_hours_25, e_X7_hours_26, e_X7_hours_29, e_X7_hours_30, e_X7_hours_31, e_X7_hours_32, e_X7_hours_33, e_X7_hours_36, e_X7_hours_39, e_X7_hours_41, e_X7_hours_42, e_X7_hours_43, e_X7_hours_45, e_X7_hours_46, e_X7_hours_49, e_X7_hours_50, e_X7_hours_53, e_X7_hours_54, e_X7_hours_57, e_X7_hours_60, e_X7_hours_63, e_X7_hours_64, e_X7_hours_67, in_1_24, jm_bd_v, jm_bd_0, bv1, if_false, if_true, not_false_eq_true, not_true_eq_false, e2 217 (by decide), e2 221 (by decide), hth, if_pos hn, show (5 : Nat) < 44 by decide, if_pos hf]
          exact f1
        · have : jn mc' mm' = mm' := by
            funext a
            unfold jn
            by_cases q : a < 217
            · rw [if_pos q, f2 a q]
            · rw [if_neg q]
          rw [this] at f3
          exact f3
      · refine Api.bad hR (r := .int (-1000003)) ?_ ?_
        · show jm_R 12 md_X6_hours 0 [.ref 0, .int n, .null] [] _ = _
          simp only [e_X6_hours_0, e_X6_hours_1, e_X6_hours_4, e_X6_hours_7, e_X6_hours_10, e_X6_hours_12, e_X6_hours_13, e_X6_hours_14, e_X6_hours_15, e_X6_hours_17, e_X6_hours_20, e_X6_hours_23, e_X6_hours_25, e_X6_hours_26, e_X6_hours_27, e_X6_hours_30, e_X6_hours_33, e_X6_hours_34, e_X6_hours_35, e_X6_hours_38, e_X6_hours_41, e_X6_hours_43, e_X6_hours_44, e_X6_hours_45, e_X6_hours_47, e_X6_hours_48, e_X6_hours_51, e_X6_hours_52, e_X6_hours_55, e_X6_hours_56, e_X6_hours_59, e_X6_hours_62, e_X6_hours_63, e_X6_hours_66, e_X6_hours_69, e_X6_hours_72, e_X6_hours_75, e_X6_hours_76, e_X6_hours_79, e_X6_hours_82, e_X6_hours_85, k_X2_hasBoat hI, k_X2_stands hI, k_X2_hasCell hI, c6, c5, k_X6_within, jm_bd_v, jm_bd_0, bv1, if_false, if_true, not_false_eq_true, not_true_eq_false, hst, if_pos hn, hI, eh, if_neg hf]
        · show jm_R 12 md_X7_hours 0 [.ref 217, .int n, .null] [] _ = _
          simp only [e_X7_hours_0, e_X7_hours_1, e_X7_hours_4, e_X7_hours_7, e_X7_hours_9, e_X7_hours_10, e_X7_hours_11, e_X7_hours_12, e_X7_hours_13, e_X7_hours_16, e_X7_hours_19, e_X7_hours_22, e_X7_hours_24, e_X7_hours_25, e_X7_hours_26, e_X7_hours_29, e_X7_hours_30, e_X7_hours_31, e_X7_hours_32, e_X7_hours_33, e_X7_hours_36, e_X7_hours_39, e_X7_hours_41, e_X7_hours_42, e_X7_hours_43, e_X7_hours_45, e_X7_hours_46, e_X7_hours_49, e_X7_hours_50, e_X7_hours_53, e_X7_hours_54, e_X7_hours_57, e_X7_hours_60, e_X7_hours_63, e_X7_hours_64, e_X7_hours_67, in_1_24, jm_bd_v, jm_bd_0, bv1, if_false, if_true, not_false_eq_true, not_true_eq_false, hth, if_pos hn, show (5 : Nat) < 44 by decide, if_neg hf]
    · refine Api.bad hR (r := .int (-1000001)) ?_ ?_
      · show jm_R 12 md_X6_hours 0 [.ref 0, .int n, .null] [] _ = _
        simp only [e_X6_hours_0, e_X6_hours_1, e_X6_hours_4, e_X6_hours_7, e_X6_hours_10, e_X6_hours_12, e_X6_hours_13, e_X6_hours_14, e_X6_hours_15, e_X6_hours_17, e_X6_hours_20, e_X6_hours_23, e_X6_hours_25, e_X6_hours_26, e_X6_hours_27, e_X6_hours_30, e_X6_hours_33, e_X6_hours_34, e_X6_hours_35, e_X6_hours_38, e_X6_hours_41, e_X6_hours_43, e_X6_hours_44, e_X6_hours_45, e_X6_hours_47, e_X6_hours_48, e_X6_hours_51, e_X6_hours_52, e_X6_hours_55, e_X6_hours_56, e_X6_hours_59, e_X6_hours_62, e_X6_hours_63, e_X6_hours_66, e_X6_hours_69, e_X6_hours_72, e_X6_hours_75, e_X6_hours_76, e_X6_hours_79, e_X6_hours_82, e_X6_hours_85, k_X2_hasBoat hI, k_X2_stands hI, k_X2_hasCell hI, c6, c5, k_X6_within, jm_bd_v, jm_bd_0, bv1, if_false, if_true, not_false_eq_true, not_true_eq_false, hst, if_neg hn]
      · show jm_R 12 md_X7_hours 0 [.ref 217, .int n, .null] [] _ = _
        simp only [e_X7_hours_0, e_X7_hours_1, e_X7_hours_4, e_X7_hours_7, e_X7_hours_9, e_X7_hours_10, e_X7_hours_11, e_X7_hours_12, e_X7_hours_13, e_X7_hours_16, e_X7_hours_19, e_X7_hours_22, e_X7_hours_24, e_X7_hours_25, e_X7_hours_26, e_X7_hours_29, e_X7_hours_30, e_X7_hours_31, e_X7_hours_32, e_X7_hours_33, e_X7_hours_36, e_X7_hours_39, e_X7_hours_41, e_X7_hours_42, e_X7_hours_43, e_X7_hours_45, e_X7_hours_46, e_X7_hours_49, e_X7_hours_50, e_X7_hours_53, e_X7_hours_54, e_X7_hours_57, e_X7_hours_60, e_X7_hours_63, e_X7_hours_64, e_X7_hours_67, in_1_24, jm_bd_v, jm_bd_0, bv1, if_false, if_true, not_false_eq_true, not_true_eq_false, hth, if_neg hn]
