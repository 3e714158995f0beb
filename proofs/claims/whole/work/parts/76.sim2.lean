/-! isle: cells read alike -/
section S2
variable {d D k : Nat} {B : Nat → Nat} {m : Nat → Nat → Int32} {l q : Int32}
theorem cells_sim (hT : CT m k B) : ∀ (f c p : Nat) (x : Nat → Nat → Int32) (rd : Nat → Int32), c + f = 6 → p ≤ k → II c 0 x rd → (∃ (c' p1 : Nat) (x' : Nat → Nat → Int32) (rd' : Nat → Int32), 1 ≤ c' ∧ p1 ≤ k ∧ II c' 0 x' rd' ∧ ¬ (p1 < k ∧ B p1 = 104) ∧ (∀ l3, jm_R (d + 3) md_X5_readCells 2 [.ref 13, .ref 208, .int (nI c), l3] [] (jm_mk (cs m (nI p) l q x)) = some (some (.int (nI 1)), jm_mk (cs m (nI p1) l q x'))) ∧ ∀ (m' : Nat → Nat → Int32) (w : Int32) (l2 : Value), MT m' k B → ∃ l2', jm_R (D + 5) md_X7_readIsle 89 [.ref 217, .int (nI 1), l2] [] (jm_mk (mt B k m' p w rd)) = jm_R (D + 5) md_X7_readIsle 89 [.ref 217, .int (nI 1), l2'] [] (jm_mk (mt B k m' p1 w rd'))) ∨ ∃ f q', (∀ l3, CF (jm_R (d + 3) md_X5_readCells 2 [.ref 13, .ref 208, .int (nI c), l3] [] (jm_mk (cs m (nI p) l q x))) m f q') ∧ ∀ (m' : Nat → Nat → Int32) (w : Int32) (l2 : Value), MT m' k B → MF (jm_R (D + 5) md_X7_readIsle 89 [.ref 217, .int (nI 1), l2] [] (jm_mk (mt B k m' p w rd))) B k m' f q' := by
  have hI : jm_ia 208 = true := by decide
  have hk := hT.2.1
  intro f
  induction f with
  | zero =>
    intro c p x rd hc hp hi
    have g6 : nI 6 ≤ nI c := nI_le (by omega) (by omega)
    have kn := k_next (d := d + 2) (l := l) (q := q) (x := x) hT hp
    have h3 := hi.1
    have h4 := hi.2.1
    by_cases z : p < k ∧ B p = 104
    · have e : nxt B k p = nI 104 := by rw [nxt_eq hT.2.2.2 (by decide)]; exact z
      refine Or.inr ⟨3, p, fun l3 => CF.of (nI p) x ?_, fun m' w l2 hT' => MF.of rd ?_⟩
      · rw [e_X5_readCells_2]
        simp only [e_X5_readCells_0, e_X5_readCells_1, e_X5_readCells_3, e_X5_readCells_5, e_X5_readCells_8, e_X5_readCells_9, e_X5_readCells_12, e_X5_readCells_13, e_X5_readCells_16, e_X5_readCells_18, e_X5_readCells_21, e_X5_readCells_22, e_X5_readCells_23, e_X5_readCells_24, e_X5_readCells_26, e_X5_readCells_29, e_X5_readCells_32, e_X5_readCells_33, e_X5_readCells_34, e_X5_readCells_35, e_X5_readCells_36, e_X5_readCells_38, e_X5_readCells_41, e_X5_readCells_42, e_X5_readCells_43, e_X5_readCells_46, e_X5_readCells_47, e_X5_readCells_49, e_X5_readCells_52, e_X5_readCells_55, e_X5_readCells_56, e_X5_readCells_57, e_X5_readCells_58, e_X5_readCells_59, e_X5_readCells_62, e_X5_readCells_65, e_X5_readCells_68, e_X5_readCells_69, e_X5_readCells_72, e_X5_readCells_74, e_X5_readCells_77, e_X5_readCells_78, e_X5_readCells_79, e_X5_readCells_82, e_X5_readCells_85, e_X5_readCells_86, e_X5_readCells_89, e_X5_readCells_90, g6, if_true, kn, jm_bd_v, e, not_true_eq_false, if_false, k_refuse, true_or, or_true]
      · rw [rk_cell hT' (n := 0) (by decide) h4.1 z.1 z.2 (Or.inl rfl) (rc_full (d := D + 3) h3.2 (by decide) h3.1 h4.1 (Or.inl (by omega))), rk_0]
        rfl
    · have e : ¬ nxt B k p = nI 104 := by rw [nxt_eq hT.2.2.2 (by decide)]; exact z
      refine Or.inl ⟨c, p, x, rd, by omega, hp, hi, z, fun l3 => ?_, fun m' w l2 hT' => ⟨l2, rfl⟩⟩
      rw [e_X5_readCells_2]
      simp only [e_X5_readCells_0, e_X5_readCells_1, e_X5_readCells_3, e_X5_readCells_5, e_X5_readCells_8, e_X5_readCells_9, e_X5_readCells_12, e_X5_readCells_13, e_X5_readCells_16, e_X5_readCells_18, e_X5_readCells_21, e_X5_readCells_22, e_X5_readCells_23, e_X5_readCells_24, e_X5_readCells_26, e_X5_readCells_29, e_X5_readCells_32, e_X5_readCells_33, e_X5_readCells_34, e_X5_readCells_35, e_X5_readCells_36, e_X5_readCells_38, e_X5_readCells_41, e_X5_readCells_42, e_X5_readCells_43, e_X5_readCells_46, e_X5_readCells_47, e_X5_readCells_49, e_X5_readCells_52, e_X5_readCells_55, e_X5_readCells_56, e_X5_readCells_57, e_X5_readCells_58, e_X5_readCells_59, e_X5_readCells_62, e_X5_readCells_65, e_X5_readCells_68, e_X5_readCells_69, e_X5_readCells_72, e_X5_readCells_74, e_X5_readCells_77, e_X5_readCells_78, e_X5_readCells_79, e_X5_readCells_82, e_X5_readCells_85, e_X5_readCells_86, e_X5_readCells_89, e_X5_readCells_90, g6, if_true, kn, jm_bd_v, e, not_false_eq_true, true_or, or_true]
  | succ f ih =>
    intro c p x rd hc hp hi
    have hc6 : c < 6 := by omega
    have g6 : ¬ nI 6 ≤ nI c := nI_ge hc6 (by omega)
    have kn := k_next (d := d + 2) (l := l) (q := q) (x := x) hT hp
    have h3 := hi.1
    have h4 := hi.2.1
    have x5 : x 0 5 = nI c := by
      have := hi.2.2.2.2.2.2.2.2.1.2.2.2.2.2.1
      rw [this]; exact h3.1
    by_cases z : p < k ∧ B p = 104
    · have e : nxt B k p = nI 104 := by rw [nxt_eq hT.2.2.2 (by decide)]; exact z
      have t0 : ∀ x, jm_K (d + 2) md_X5_take [.ref 13, .int (nI 104)] (jm_mk (cs m (nI p) l q x)) = _ := fun x => k_take_y (d := d + 1) hT z.1 z.2
      have hs : sgn (B p) := by rw [z.2]; decide
      have hp1 : p + 1 ≤ k := z.1
      have hgo : ∀ l3, jm_R (d + 3) md_X5_readCells 2 [.ref 13, .ref 208, .int (nI c), l3] [] (jm_mk (cs m (nI p) l q x)) = jm_R (d + 3) md_X5_readCells 34 [.ref 13, .ref 208, .int (nI c), l3] [] (jm_mk (cs m (nI (p + 1)) l q x)) := fun l3 => by
        rw [e_X5_readCells_2]
        by_cases u : c = 0
        · have gu : nI c ≤ nI 0 := nI_le (by omega) (by omega)
          simp only [e_X5_readCells_0, e_X5_readCells_1, e_X5_readCells_3, e_X5_readCells_5, e_X5_readCells_8, e_X5_readCells_9, e_X5_readCells_12, e_X5_readCells_13, e_X5_readCells_16, e_X5_readCells_18, e_X5_readCells_21, e_X5_readCells_22, e_X5_readCells_23, e_X5_readCells_24, e_X5_readCells_26, e_X5_readCells_29, e_X5_readCells_32, e_X5_readCells_33, e_X5_readCells_35, e_X5_readCells_36, e_X5_readCells_38, e_X5_readCells_41, e_X5_readCells_42, e_X5_readCells_43, e_X5_readCells_46, e_X5_readCells_47, e_X5_readCells_49, e_X5_readCells_52, e_X5_readCells_55, e_X5_readCells_56, e_X5_readCells_57, e_X5_readCells_58, e_X5_readCells_59, e_X5_readCells_62, e_X5_readCells_65, e_X5_readCells_68, e_X5_readCells_69, e_X5_readCells_72, e_X5_readCells_74, e_X5_readCells_77, e_X5_readCells_78, e_X5_readCells_79, e_X5_readCells_82, e_X5_readCells_85, e_X5_readCells_86, e_X5_readCells_89, e_X5_readCells_90, g6, if_false, gu, if_true, t0, jm_bd_v, bv1, not_false_eq_true]
        · have gu : ¬ nI c ≤ nI 0 := nI_ge (by omega) (by omega)
          simp only [e_X5_readCells_0, e_X5_readCells_1, e_X5_readCells_3, e_X5_readCells_5, e_X5_readCells_8, e_X5_readCells_9, e_X5_readCells_12, e_X5_readCells_13, e_X5_readCells_16, e_X5_readCells_18, e_X5_readCells_21, e_X5_readCells_22, e_X5_readCells_23, e_X5_readCells_24, e_X5_readCells_26, e_X5_readCells_29, e_X5_readCells_32, e_X5_readCells_33, e_X5_readCells_35, e_X5_readCells_36, e_X5_readCells_38, e_X5_readCells_41, e_X5_readCells_42, e_X5_readCells_43, e_X5_readCells_46, e_X5_readCells_47, e_X5_readCells_49, e_X5_readCells_52, e_X5_readCells_55, e_X5_readCells_56, e_X5_readCells_57, e_X5_readCells_58, e_X5_readCells_59, e_X5_readCells_62, e_X5_readCells_65, e_X5_readCells_68, e_X5_readCells_69, e_X5_readCells_72, e_X5_readCells_74, e_X5_readCells_77, e_X5_readCells_78, e_X5_readCells_79, e_X5_readCells_82, e_X5_readCells_85, e_X5_readCells_86, e_X5_readCells_89, e_X5_readCells_90, g6, if_false, gu, kn, e, if_true, t0, jm_bd_v, bv1, not_false_eq_true]
      by_cases n1 : nOk B k (p + 1) 0 30
      · have tn : ∀ x, jm_K (d + 2) md_X5_number [.ref 13, .int (nI 0), .int (nI 30)] (jm_mk (cs m (nI (p + 1)) l q x)) = _ := fun x => k_num_y (d := d) hT hp1 (by decide) n1
        have hl := (nm_le n1.1).1
        have hv := nv0 n1.1
        by_cases s1 : p + 1 + nmL B k (p + 1) < k ∧ B (p + 1 + nmL B k (p + 1)) = 59
        · have tt : ∀ x, jm_K (d + 2) md_X5_take [.ref 13, .int (nI 59)] (jm_mk (cs m (nI (p + 1 + nmL B k (p + 1))) l q x)) = _ := fun x => k_take_y (d := d + 1) hT s1.1 s1.2
          have ka : jm_K (d + 2) md_X2_addCell [.ref 208, .int (nI (nmV B k (p + 1)))] (jm_mk (cs m (nI (p + 1 + nmL B k (p + 1) + 1)) l q x)) = some (none, jm_mk (cs m (nI (p + 1 + nmL B k (p + 1) + 1)) l q (jm_up (jm_up x 1 c (nI (nmV B k (p + 1)))) 0 5 (nI (c + 1))))) := k_addCell hI hc6 x5
          have hcl : ∀ l3, jm_R (d + 3) md_X5_readCells 2 [.ref 13, .ref 208, .int (nI c), l3] [] (jm_mk (cs m (nI p) l q x)) = jm_R (d + 3) md_X5_readCells 2 [.ref 13, .ref 208, .int (nI (c + 1)), .int (nI (nmV B k (p + 1)))] [] (jm_mk (cs m (nI (p + 1 + nmL B k (p + 1) + 1)) l q (jm_up (jm_up x 1 c (nI (nmV B k (p + 1)))) 0 5 (nI (c + 1))))) := fun l3 => by
            rw [hgo]
            simp only [e_X5_readCells_0, e_X5_readCells_1, e_X5_readCells_3, e_X5_readCells_5, e_X5_readCells_8, e_X5_readCells_9, e_X5_readCells_12, e_X5_readCells_13, e_X5_readCells_16, e_X5_readCells_18, e_X5_readCells_21, e_X5_readCells_22, e_X5_readCells_23, e_X5_readCells_24, e_X5_readCells_26, e_X5_readCells_29, e_X5_readCells_32, e_X5_readCells_33, e_X5_readCells_34, e_X5_readCells_35, e_X5_readCells_36, e_X5_readCells_38, e_X5_readCells_41, e_X5_readCells_42, e_X5_readCells_43, e_X5_readCells_46, e_X5_readCells_47, e_X5_readCells_49, e_X5_readCells_52, e_X5_readCells_55, e_X5_readCells_56, e_X5_readCells_57, e_X5_readCells_58, e_X5_readCells_59, e_X5_readCells_62, e_X5_readCells_65, e_X5_readCells_68, e_X5_readCells_69, e_X5_readCells_72, e_X5_readCells_74, e_X5_readCells_77, e_X5_readCells_78, e_X5_readCells_79, e_X5_readCells_82, e_X5_readCells_85, e_X5_readCells_86, e_X5_readCells_89, e_X5_readCells_90, tn, hv, if_false, tt, jm_bd_v, bv1, not_false_eq_true, if_true, hI, ka, jm_bd_0, nI_add]
          have hml : ∀ (m' : Nat → Nat → Int32) (w : Int32) (l2 : Value), MT m' k B → jm_R (D + 5) md_X7_readIsle 89 [.ref 217, .int (nI 1), l2] [] (jm_mk (mt B k m' p w rd)) = jm_R (D + 5) md_X7_readIsle 89 [.ref 217, .int (nI 1), .int (nI 0)] [] (jm_mk (mt B k m' (p + 1 + nmL B k (p + 1) + 1) w (upd (upd rd 3 (nI (c + 1))) (8 + c) (nI (nmV B k (p + 1)))))) := fun m' w l2 hT' => rk_cell hT' (n := 0) (by decide) h4.1 z.1 z.2 (Or.inr rfl) (rc_go (d := D) hT' hc6 h3.1 h4.1 z.1 hs (Or.inr rfl) (k_tn_y (d := D) hT' hp1 (by decide) (by decide) (by omega) n1 (by decide) (by decide) s1.1 s1.2))
          rcases ih (c + 1) (p + 1 + nmL B k (p + 1) + 1) _ _ (by omega) s1.1 (hi.cell (v := nmV B k (p + 1)) hc6) with ⟨c', p1, x', rd', a1, a2, a3, a4, a5, a6⟩ | ⟨f', q', a1, a2⟩
          · refine Or.inl ⟨c', p1, x', rd', a1, a2, a3, a4, fun l3 => by rw [hcl, a5], fun m' w l2 hT' => ?_⟩
            rw [hml m' w l2 hT']
            exact a6 m' w _ hT'
          · refine Or.inr ⟨f', q', fun l3 => by rw [hcl]; exact a1 _, fun m' w l2 hT' => ?_⟩
            rw [hml m' w l2 hT']
            exact a2 m' w _ hT'
        · have tt : ∀ x, jm_K (d + 2) md_X5_take [.ref 13, .int (nI 59)] (jm_mk (cs m (nI (p + 1 + nmL B k (p + 1))) l q x)) = _ := fun x => k_take_n (d := d + 1) hT hl (by decide) s1
          refine Or.inr ⟨1, p + 1 + nmL B k (p + 1), fun l3 => CF.of (nI (p + 1 + nmL B k (p + 1))) x ?_, fun m' w l2 hT' => MF.of (upd (upd rd 3 (nI (c + 1))) (8 + c) (nI (nmV B k (p + 1)))) ?_⟩
          · rw [hgo]
            simp only [e_X5_readCells_0, e_X5_readCells_1, e_X5_readCells_3, e_X5_readCells_5, e_X5_readCells_8, e_X5_readCells_9, e_X5_readCells_12, e_X5_readCells_13, e_X5_readCells_16, e_X5_readCells_18, e_X5_readCells_21, e_X5_readCells_22, e_X5_readCells_23, e_X5_readCells_24, e_X5_readCells_26, e_X5_readCells_29, e_X5_readCells_32, e_X5_readCells_33, e_X5_readCells_34, e_X5_readCells_35, e_X5_readCells_36, e_X5_readCells_38, e_X5_readCells_41, e_X5_readCells_42, e_X5_readCells_43, e_X5_readCells_46, e_X5_readCells_47, e_X5_readCells_49, e_X5_readCells_52, e_X5_readCells_55, e_X5_readCells_56, e_X5_readCells_57, e_X5_readCells_58, e_X5_readCells_59, e_X5_readCells_62, e_X5_readCells_65, e_X5_readCells_68, e_X5_readCells_69, e_X5_readCells_72, e_X5_readCells_74, e_X5_readCells_77, e_X5_readCells_78, e_X5_readCells_79, e_X5_readCells_82, e_X5_readCells_85, e_X5_readCells_86, e_X5_readCells_89, e_X5_readCells_90, tn, hv, if_false, tt, jm_bd_v, not_true_eq_false, true_or, or_true]
          · rw [rk_cell hT' (n := 0) (by decide) h4.1 z.1 z.2 (Or.inl rfl) (rc_go (d := D) hT' hc6 h3.1 h4.1 z.1 hs (Or.inl rfl) (k_tn_s (d := D) hT' hp1 (by decide) (by decide) (by omega) n1 (by decide) (by decide) s1)), rk_0]
      · have tn : ∀ x, jm_K (d + 2) md_X5_number [.ref 13, .int (nI 0), .int (nI 30)] (jm_mk (cs m (nI (p + 1)) l q x)) = _ := fun x => k_num_n (d := d) hT hp1 (by decide) (by decide) n1
        refine Or.inr ⟨nCd B k (p + 1), p + 1, fun l3 => CF.of (nI (p + 1)) x ?_, fun m' w l2 hT' => MF.of (upd rd 3 (nI (c + 1))) ?_⟩
        · rw [hgo]
          simp only [e_X5_readCells_0, e_X5_readCells_1, e_X5_readCells_3, e_X5_readCells_5, e_X5_readCells_8, e_X5_readCells_9, e_X5_readCells_12, e_X5_readCells_13, e_X5_readCells_16, e_X5_readCells_18, e_X5_readCells_21, e_X5_readCells_22, e_X5_readCells_23, e_X5_readCells_24, e_X5_readCells_26, e_X5_readCells_29, e_X5_readCells_32, e_X5_readCells_33, e_X5_readCells_34, e_X5_readCells_35, e_X5_readCells_36, e_X5_readCells_38, e_X5_readCells_41, e_X5_readCells_42, e_X5_readCells_43, e_X5_readCells_46, e_X5_readCells_47, e_X5_readCells_49, e_X5_readCells_52, e_X5_readCells_55, e_X5_readCells_56, e_X5_readCells_57, e_X5_readCells_58, e_X5_readCells_59, e_X5_readCells_62, e_X5_readCells_65, e_X5_readCells_68, e_X5_readCells_69, e_X5_readCells_72, e_X5_readCells_74, e_X5_readCells_77, e_X5_readCells_78, e_X5_readCells_79, e_X5_readCells_82, e_X5_readCells_85, e_X5_readCells_86, e_X5_readCells_89, e_X5_readCells_90, tn, m1_lt, if_true, jm_bd_v, true_or, or_true]
        · rw [rk_cell hT' (n := 0) (by decide) h4.1 z.1 z.2 (Or.inl rfl) (rc_go (d := D) hT' hc6 h3.1 h4.1 z.1 hs (Or.inl rfl) (k_tn_n (d := D) hT' hp1 (by decide) (by decide) n1)), rk_0]
    · have e : ¬ nxt B k p = nI 104 := by rw [nxt_eq hT.2.2.2 (by decide)]; exact z
      by_cases u : c = 0
      · have gu : nI c ≤ nI 0 := nI_le (by omega) (by omega)
        have t0 : ∀ x, jm_K (d + 2) md_X5_take [.ref 13, .int (nI 104)] (jm_mk (cs m (nI p) l q x)) = _ := fun x => k_take_n (d := d + 1) hT hp (by decide) z
        refine Or.inr ⟨1, p, fun l3 => CF.of (nI p) x ?_, fun m' w l2 hT' => MF.of rd ?_⟩
        · rw [e_X5_readCells_2]
          simp only [e_X5_readCells_0, e_X5_readCells_1, e_X5_readCells_3, e_X5_readCells_5, e_X5_readCells_8, e_X5_readCells_9, e_X5_readCells_12, e_X5_readCells_13, e_X5_readCells_16, e_X5_readCells_18, e_X5_readCells_21, e_X5_readCells_22, e_X5_readCells_23, e_X5_readCells_24, e_X5_readCells_26, e_X5_readCells_29, e_X5_readCells_32, e_X5_readCells_33, e_X5_readCells_34, e_X5_readCells_35, e_X5_readCells_36, e_X5_readCells_38, e_X5_readCells_41, e_X5_readCells_42, e_X5_readCells_43, e_X5_readCells_46, e_X5_readCells_47, e_X5_readCells_49, e_X5_readCells_52, e_X5_readCells_55, e_X5_readCells_56, e_X5_readCells_57, e_X5_readCells_58, e_X5_readCells_59, e_X5_readCells_62, e_X5_readCells_65, e_X5_readCells_68, e_X5_readCells_69, e_X5_readCells_72, e_X5_readCells_74, e_X5_readCells_77, e_X5_readCells_78, e_X5_readCells_79, e_X5_readCells_82, e_X5_readCells_85, e_X5_readCells_86, e_X5_readCells_89, e_X5_readCells_90, g6, if_false, gu, if_true, t0, jm_bd_v, not_true_eq_false, true_or, or_true]
        · by_cases v : kdp B k p = 0
          · exact rk_bad hT' hp (n := 0) (by decide) h4.1 (Or.inr rfl) v z
          · have hpk : p < k := by
              rcases Nat.lt_or_ge p k with h | h
              · exact h
              · exact absurd (if_neg (by omega)) v
            have hk5 : kd5 (B p) ≠ 0 := by
              have : kdp B k p = kd5 (B p) := if_pos hpk
              rw [← this]; exact v
            rw [rk_boat hT' (n := 0) (by decide) h4.1 hpk hk5 (Or.inl rfl) (rb_full (d := D + 3) (b := 0) h3.2 (by decide) h3.1 h4.1 (Or.inr u)), rk_0, if_pos u]
      · have gu : ¬ nI c ≤ nI 0 := nI_ge (by omega) (by omega)
        refine Or.inl ⟨c, p, x, rd, by omega, hp, hi, z, fun l3 => ?_, fun m' w l2 hT' => ⟨l2, rfl⟩⟩
        rw [e_X5_readCells_2]
        simp only [e_X5_readCells_0, e_X5_readCells_1, e_X5_readCells_3, e_X5_readCells_5, e_X5_readCells_8, e_X5_readCells_9, e_X5_readCells_12, e_X5_readCells_13, e_X5_readCells_16, e_X5_readCells_18, e_X5_readCells_21, e_X5_readCells_22, e_X5_readCells_23, e_X5_readCells_24, e_X5_readCells_26, e_X5_readCells_29, e_X5_readCells_32, e_X5_readCells_33, e_X5_readCells_34, e_X5_readCells_35, e_X5_readCells_36, e_X5_readCells_38, e_X5_readCells_41, e_X5_readCells_42, e_X5_readCells_43, e_X5_readCells_46, e_X5_readCells_47, e_X5_readCells_49, e_X5_readCells_52, e_X5_readCells_55, e_X5_readCells_56, e_X5_readCells_57, e_X5_readCells_58, e_X5_readCells_59, e_X5_readCells_62, e_X5_readCells_65, e_X5_readCells_68, e_X5_readCells_69, e_X5_readCells_72, e_X5_readCells_74, e_X5_readCells_77, e_X5_readCells_78, e_X5_readCells_79, e_X5_readCells_82, e_X5_readCells_85, e_X5_readCells_86, e_X5_readCells_89, e_X5_readCells_90, g6, if_false, gu, kn, jm_bd_v, e, true_or, or_true]
end S2
