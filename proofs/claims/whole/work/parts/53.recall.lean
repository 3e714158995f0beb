/-! recall -/
def anN (c s : Nat) : Nat := c &&& (63 ^^^ s)
set_option maxRecDepth 1000000 in
theorem an_fin : ∀ c, c < 64 → ∀ s, s < 64 → nI c &&& (nI s ^^^ (-1)) = nI (anN c s) ∧ anN c s ≤ c ∧ (anN c s = 0 → c ≤ s) := by decide +kernel
theorem an_I {c s : Nat} (hc : c < 64) (hs : s < 64) : nI c &&& (nI s ^^^ (-1)) = nI (anN c s) := (an_fin c hc s hs).1
theorem an_le {c s : Nat} (hc : c < 64) (hs : s < 64) : anN c s ≤ c := (an_fin c hc s hs).2.1
theorem an_0 {c s : Nat} (hc : c < 64) (hs : s < 64) (h : anN c s = 0) : c ≤ s := (an_fin c hc s hs).2.2 h
theorem an_e0 {c s : Nat} (hc : c < 64) (hs : s < 64) : (nI (anN c s) = nI 0) = (anN c s = 0) := propext (nI_eq (by have := an_le hc hs; omega) (by decide))
def rcS (y : Nat → Int32) (s q j n c : Nat) (o : Option Nat) : Option Nat := if anN c q = 0 ∧ fwr c o = true ∧ ovS y (anN s c) n = nI j then some c else o
theorem rcS_lt {y : Nat → Int32} {s q j n B : Nat} (c : Nat) (o : Option Nat) (hc : c < B) (ho : ∀ b, o = some b → b < B) : ∀ b, rcS y s q j n c o = some b → b < B := by
  intro b h
  unfold rcS at h
  by_cases u : anN c q = 0 ∧ fwr c o = true ∧ ovS y (anN s c) n = nI j
  · rw [if_pos u] at h; cases h; exact hc
  · rw [if_neg u] at h; exact ho b h
theorem lp_X4_recall {d C N n s q j : Nat} {m : Nat → Nat → Int32} {y : Nat → Int32} (hn : n < 1000) (g : GN C N (vwI m 200) y) (hs : s < 2 ^ N) (hq : q < 2 ^ N) (ms : m 200 7 = nI s) : ∀ (k c : Nat) (o : Option Nat) (x : Nat → Nat → Int32), (∀ b, o = some b → b < 2 ^ N) → c + k = 2 ^ N → ∃ x', jm_R (d + 5) md_X4_fewestKeptHome 20 [.ref 207, .int (nI j), .int (nI n), .int (nI q), .int (ovI o), .int (nI c)] [] (jm_mk (wrI m 208 x)) = some (some (.int (ovI (fwL (rcS y s q j n) k c o))), jm_mk (wrI m 208 x')) := by
  have hI : jm_ia 200 = true := by decide
  have hN6 := g.N6
  have hp := pow_le hN6
  have c6 : ∀ x, wrI m 208 x 200 6 = nI N := fun x => by
    rw [wrI_o (by decide)]
    obtain ⟨o, a1, a2, a3, -⟩ := g.all
    exact a3
  have c7 : ∀ x, wrI m 208 x 200 7 = nI s := fun x => by rw [wrI_o (by decide)]; exact ms
  have es := shl_1 N hN6
  intro k
  induction k with
  | zero =>
    intro c o x ho h
    have h1 : nI (2 ^ N) ≤ nI c := nI_le (by omega) (by omega)
    refine ⟨x, ?_⟩
    rw [e_X4_fewestKeptHome_20]
    simp only [e_X4_fewestKeptHome_0, e_X4_fewestKeptHome_1, e_X4_fewestKeptHome_4, e_X4_fewestKeptHome_7, e_X4_fewestKeptHome_8, e_X4_fewestKeptHome_9, e_X4_fewestKeptHome_10, e_X4_fewestKeptHome_11, e_X4_fewestKeptHome_12, e_X4_fewestKeptHome_13, e_X4_fewestKeptHome_14, e_X4_fewestKeptHome_15, e_X4_fewestKeptHome_17, e_X4_fewestKeptHome_18, e_X4_fewestKeptHome_22, e_X4_fewestKeptHome_23, e_X4_fewestKeptHome_24, e_X4_fewestKeptHome_27, e_X4_fewestKeptHome_30, e_X4_fewestKeptHome_31, e_X4_fewestKeptHome_34, e_X4_fewestKeptHome_36, e_X4_fewestKeptHome_37, e_X4_fewestKeptHome_38, e_X4_fewestKeptHome_39, e_X4_fewestKeptHome_40, e_X4_fewestKeptHome_43, e_X4_fewestKeptHome_45, e_X4_fewestKeptHome_47, e_X4_fewestKeptHome_50, e_X4_fewestKeptHome_53, e_X4_fewestKeptHome_56, e_X4_fewestKeptHome_57, e_X4_fewestKeptHome_58, e_X4_fewestKeptHome_61, e_X4_fewestKeptHome_64, e_X4_fewestKeptHome_66, e_X4_fewestKeptHome_67, e_X4_fewestKeptHome_68, e_X4_fewestKeptHome_69, e_X4_fewestKeptHome_70, e_X4_fewestKeptHome_73, e_X4_fewestKeptHome_74, e_X4_fewestKeptHome_77, e_X4_fewestKeptHome_79, e_X4_fewestKeptHome_81, e_X4_fewestKeptHome_84, e_X4_fewestKeptHome_87, e_X4_fewestKeptHome_89, hI, c6, es, h1, if_true]
    rfl
  | succ k ih =>
    intro c o x ho h
    have h1 : ¬ nI (2 ^ N) ≤ nI c := nI_ge (by omega) (by omega)
    have hc64 : c < 64 := by omega
    have hf := k_X4_isFewer (d := d + 3) (m := wrI m 208 x) (show c < 64 by omega) (fun b hb => by have := ho b hb; omega)
    have a1 := an_I hc64 (show q < 64 by omega)
    have a2 := an_e0 hc64 (show q < 64 by omega)
    have a3 := an_I (show s < 64 by omega) hc64
    have a4 := an_le (show s < 64 by omega) hc64
    rw [fwL_s]
    by_cases u : anN c q = 0
    · by_cases v : fwr c o = true
      · obtain ⟨x1, e1⟩ := k_X4_ownerBySent (d := d) (m := m) (x := x) (n := n) (s := anN s c) hn (by omega) g
        obtain ⟨x2, e2⟩ := ih (c + 1) (rcS y s q j n c o) x1 (rcS_lt c o (by omega) ho) (by omega)
        refine ⟨x2, ?_⟩
        rw [← e2, e_X4_fewestKeptHome_20]
        unfold rcS
        by_cases z : ovS y (anN s c) n = nI j
        · rw [if_pos ⟨u, v, z⟩]
          simp only [e_X4_fewestKeptHome_0, e_X4_fewestKeptHome_1, e_X4_fewestKeptHome_4, e_X4_fewestKeptHome_7, e_X4_fewestKeptHome_8, e_X4_fewestKeptHome_9, e_X4_fewestKeptHome_10, e_X4_fewestKeptHome_11, e_X4_fewestKeptHome_12, e_X4_fewestKeptHome_13, e_X4_fewestKeptHome_14, e_X4_fewestKeptHome_15, e_X4_fewestKeptHome_17, e_X4_fewestKeptHome_18, e_X4_fewestKeptHome_22, e_X4_fewestKeptHome_23, e_X4_fewestKeptHome_24, e_X4_fewestKeptHome_27, e_X4_fewestKeptHome_30, e_X4_fewestKeptHome_31, e_X4_fewestKeptHome_34, e_X4_fewestKeptHome_36, e_X4_fewestKeptHome_37, e_X4_fewestKeptHome_38, e_X4_fewestKeptHome_39, e_X4_fewestKeptHome_40, e_X4_fewestKeptHome_43, e_X4_fewestKeptHome_45, e_X4_fewestKeptHome_47, e_X4_fewestKeptHome_50, e_X4_fewestKeptHome_53, e_X4_fewestKeptHome_56, e_X4_fewestKeptHome_57, e_X4_fewestKeptHome_58, e_X4_fewestKeptHome_61, e_X4_fewestKeptHome_64, e_X4_fewestKeptHome_66, e_X4_fewestKeptHome_67, e_X4_fewestKeptHome_68, e_X4_fewestKeptHome_69, e_X4_fewestKeptHome_70, e_X4_fewestKeptHome_73, e_X4_fewestKeptHome_74, e_X4_fewestKeptHome_77, e_X4_fewestKeptHome_79, e_X4_fewestKeptHome_81, e_X4_fewestKeptHome_84, e_X4_fewestKeptHome_87, e_X4_fewestKeptHome_89, hI, c6, c7, es, h1, if_false, a1, a2, u, a3, not_true_eq_false, hf, jm_bd_v, if_pos v, bv1, not_false_eq_true, if_true, e1, z, nI_add]
          rfl
        · rw [if_neg (fun h => z h.2.2)]
          simp only [e_X4_fewestKeptHome_0, e_X4_fewestKeptHome_1, e_X4_fewestKeptHome_4, e_X4_fewestKeptHome_7, e_X4_fewestKeptHome_8, e_X4_fewestKeptHome_9, e_X4_fewestKeptHome_10, e_X4_fewestKeptHome_11, e_X4_fewestKeptHome_12, e_X4_fewestKeptHome_13, e_X4_fewestKeptHome_14, e_X4_fewestKeptHome_15, e_X4_fewestKeptHome_17, e_X4_fewestKeptHome_18, e_X4_fewestKeptHome_22, e_X4_fewestKeptHome_23, e_X4_fewestKeptHome_24, e_X4_fewestKeptHome_27, e_X4_fewestKeptHome_30, e_X4_fewestKeptHome_31, e_X4_fewestKeptHome_34, e_X4_fewestKeptHome_36, e_X4_fewestKeptHome_37, e_X4_fewestKeptHome_38, e_X4_fewestKeptHome_39, e_X4_fewestKeptHome_40, e_X4_fewestKeptHome_43, e_X4_fewestKeptHome_45, e_X4_fewestKeptHome_47, e_X4_fewestKeptHome_50, e_X4_fewestKeptHome_53, e_X4_fewestKeptHome_56, e_X4_fewestKeptHome_57, e_X4_fewestKeptHome_58, e_X4_fewestKeptHome_61, e_X4_fewestKeptHome_64, e_X4_fewestKeptHome_66, e_X4_fewestKeptHome_67, e_X4_fewestKeptHome_68, e_X4_fewestKeptHome_69, e_X4_fewestKeptHome_70, e_X4_fewestKeptHome_73, e_X4_fewestKeptHome_74, e_X4_fewestKeptHome_77, e_X4_fewestKeptHome_79, e_X4_fewestKeptHome_81, e_X4_fewestKeptHome_84, e_X4_fewestKeptHome_87, e_X4_fewestKeptHome_89, hI, c6, c7, es, h1, if_false, a1, a2, u, a3, not_true_eq_false, hf, jm_bd_v, if_pos v, bv1, not_false_eq_true, if_true, e1, z, nI_add]
      · obtain ⟨x2, e2⟩ := ih (c + 1) o x ho (by omega)
        have e3 : rcS y s q j n c o = o := if_neg (fun h => v h.2.1)
        refine ⟨x2, ?_⟩
        rw [e3, ← e2, e_X4_fewestKeptHome_20]
        simp only [e_X4_fewestKeptHome_0, e_X4_fewestKeptHome_1, e_X4_fewestKeptHome_4, e_X4_fewestKeptHome_7, e_X4_fewestKeptHome_8, e_X4_fewestKeptHome_9, e_X4_fewestKeptHome_10, e_X4_fewestKeptHome_11, e_X4_fewestKeptHome_12, e_X4_fewestKeptHome_13, e_X4_fewestKeptHome_14, e_X4_fewestKeptHome_15, e_X4_fewestKeptHome_17, e_X4_fewestKeptHome_18, e_X4_fewestKeptHome_22, e_X4_fewestKeptHome_23, e_X4_fewestKeptHome_24, e_X4_fewestKeptHome_27, e_X4_fewestKeptHome_30, e_X4_fewestKeptHome_31, e_X4_fewestKeptHome_34, e_X4_fewestKeptHome_36, e_X4_fewestKeptHome_37, e_X4_fewestKeptHome_38, e_X4_fewestKeptHome_39, e_X4_fewestKeptHome_40, e_X4_fewestKeptHome_43, e_X4_fewestKeptHome_45, e_X4_fewestKeptHome_47, e_X4_fewestKeptHome_50, e_X4_fewestKeptHome_53, e_X4_fewestKeptHome_56, e_X4_fewestKeptHome_57, e_X4_fewestKeptHome_58, e_X4_fewestKeptHome_61, e_X4_fewestKeptHome_64, e_X4_fewestKeptHome_66, e_X4_fewestKeptHome_67, e_X4_fewestKeptHome_68, e_X4_fewestKeptHome_69, e_X4_fewestKeptHome_70, e_X4_fewestKeptHome_73, e_X4_fewestKeptHome_74, e_X4_fewestKeptHome_77, e_X4_fewestKeptHome_79, e_X4_fewestKeptHome_81, e_X4_fewestKeptHome_84, e_X4_fewestKeptHome_87, e_X4_fewestKeptHome_89, hI, c6, c7, es, h1, if_false, a1, a2, u, a3, not_true_eq_false, hf, jm_bd_v, if_neg v, nI_add]
    · obtain ⟨x2, e2⟩ := ih (c + 1) o x ho (by omega)
      have e3 : rcS y s q j n c o = o := if_neg (fun h => u h.1)
      refine ⟨x2, ?_⟩
      rw [e3, ← e2, e_X4_fewestKeptHome_20]
      simp only [e_X4_fewestKeptHome_0, e_X4_fewestKeptHome_1, e_X4_fewestKeptHome_4, e_X4_fewestKeptHome_7, e_X4_fewestKeptHome_8, e_X4_fewestKeptHome_9, e_X4_fewestKeptHome_10, e_X4_fewestKeptHome_11, e_X4_fewestKeptHome_12, e_X4_fewestKeptHome_13, e_X4_fewestKeptHome_14, e_X4_fewestKeptHome_15, e_X4_fewestKeptHome_17, e_X4_fewestKeptHome_18, e_X4_fewestKeptHome_22, e_X4_fewestKeptHome_23, e_X4_fewestKeptHome_24, e_X4_fewestKeptHome_27, e_X4_fewestKeptHome_30, e_X4_fewestKeptHome_31, e_X4_fewestKeptHome_34, e_X4_fewestKeptHome_36, e_X4_fewestKeptHome_37, e_X4_fewestKeptHome_38, e_X4_fewestKeptHome_39, e_X4_fewestKeptHome_40, e_X4_fewestKeptHome_43, e_X4_fewestKeptHome_45, e_X4_fewestKeptHome_47, e_X4_fewestKeptHome_50, e_X4_fewestKeptHome_53, e_X4_fewestKeptHome_56, e_X4_fewestKeptHome_57, e_X4_fewestKeptHome_58, e_X4_fewestKeptHome_61, e_X4_fewestKeptHome_64, e_X4_fewestKeptHome_66, e_X4_fewestKeptHome_67, e_X4_fewestKeptHome_68, e_X4_fewestKeptHome_69, e_X4_fewestKeptHome_70, e_X4_fewestKeptHome_73, e_X4_fewestKeptHome_74, e_X4_fewestKeptHome_77, e_X4_fewestKeptHome_79, e_X4_fewestKeptHome_81, e_X4_fewestKeptHome_84, e_X4_fewestKeptHome_87, e_X4_fewestKeptHome_89, hI, c6, c7, es, h1, if_false, a1, a2, u, not_false_eq_true, if_true, nI_add]
theorem lp_X7_recall {C N n s q j : Nat} {w : Int32} {m x : Nat → Nat → Int32} {z : Nat → Int32} (hn : n < 1000) (g : GN C N x z) (hs : s < 2 ^ N) (hq : q < 2 ^ N) (ms : z 6 = nI s) : ∀ (k c : Nat) (o : Option Nat) (y : Nat → Int32), (∀ i, i < 44 → y i = z i) → (∀ b, o = some b → b < 2 ^ N) → c + k = q + 1 → ∃ y', jm_R 12 md_X7_recall 56 [.ref 217, .int (nI j), .int (nI n), .int w, .int (nI q), .int (noV o), .int (nI c)] [] (jm_mk (wrA (wrA m 226 z) 221 y)) = jm_R 12 md_X7_recall 129 [.ref 217, .int (nI j), .int (nI n), .int w, .int (nI q), .int (noV (fwL (rcS z s q j n) k c o)), .int (nI (q + 1))] [] (jm_mk (wrA (wrA m 226 z) 221 y')) ∧ ∀ i, i < 44 → y' i = z i := by
  have hN6 := g.N6
  have hp := pow_le hN6
  intro k
  induction k with
  | zero =>
    intro c o y hy ho h
    have h1 : nI q < nI c := nI_lt (by omega) (by omega)
    refine ⟨y, ?_, hy⟩
    rw [e_X7_recall_56]
    simp only [e_X7_recall_0, e_X7_recall_1, e_X7_recall_2, e_X7_recall_5, e_X7_recall_8, e_X7_recall_9, e_X7_recall_10, e_X7_recall_11, e_X7_recall_14, e_X7_recall_17, e_X7_recall_20, e_X7_recall_21, e_X7_recall_24, e_X7_recall_27, e_X7_recall_29, e_X7_recall_30, e_X7_recall_31, e_X7_recall_34, e_X7_recall_35, e_X7_recall_38, e_X7_recall_40, e_X7_recall_41, e_X7_recall_42, e_X7_recall_43, e_X7_recall_44, e_X7_recall_45, e_X7_recall_46, e_X7_recall_47, e_X7_recall_49, e_X7_recall_51, e_X7_recall_53, e_X7_recall_54, e_X7_recall_58, e_X7_recall_60, e_X7_recall_63, e_X7_recall_65, e_X7_recall_67, e_X7_recall_68, e_X7_recall_69, e_X7_recall_70, e_X7_recall_73, e_X7_recall_75, e_X7_recall_78, e_X7_recall_80, e_X7_recall_83, e_X7_recall_85, e_X7_recall_88, e_X7_recall_91, e_X7_recall_92, e_X7_recall_95, e_X7_recall_97, e_X7_recall_98, e_X7_recall_99, e_X7_recall_101, e_X7_recall_102, e_X7_recall_103, e_X7_recall_104, e_X7_recall_105, e_X7_recall_106, e_X7_recall_107, e_X7_recall_110, e_X7_recall_111, e_X7_recall_114, e_X7_recall_116, e_X7_recall_119, e_X7_recall_121, e_X7_recall_123, e_X7_recall_126, e_X7_recall_131, e_X7_recall_134, e_X7_recall_135, e_X7_recall_136, e_X7_recall_139, e_X7_recall_141, e_X7_recall_144, e_X7_recall_146, e_X7_recall_149, h1, if_true]
    rw [show c = q + 1 by omega]
    rfl
  | succ k ih =>
    intro c o y hy ho h
    have h1 : ¬ nI q < nI c := nI_nlt (by omega) (by omega)
    have hc64 : c < 64 := by omega
    have gy := g.congr hy
    have y6 : y 6 = nI s := by rw [hy 6 (by decide)]; exact ms
    have a1 := an_I hc64 (show q < 64 by omega)
    have a2 := an_e0 hc64 (show q < 64 by omega)
    have a3 := an_I (show s < 64 by omega) hc64
    have a4 := an_le (show s < 64 by omega) hc64
    have hsc : anN s c < 2 ^ N := by omega
    have h2 := k_X7_ownerBy (d := 6) (m := m) (z := z) (y := upd y 6 (nI (anN s c))) (n := n) hn (gy.snt hsc).gx.y
    have h3 : ohN (upd y 6 (nI (anN s c))) n 7 = ovS z (anN s c) n := gy.ovs g hsc n
    rw [h3] at h2
    rw [fwL_s]
    by_cases u : anN c q = 0
    · by_cases v : fwr c o = true
      · obtain ⟨y', e, e'⟩ := ih (c + 1) (rcS z s q j n c o) (cp44 z (ohN (upd y 6 (nI (anN s c))) n)) (fun i hi => cp44_lt hi) (rcS_lt c o (by omega) ho) (by omega)
        refine ⟨y', ?_, e'⟩
        rw [← e, e_X7_recall_56]
        have hgo : jm_R 12 md_X7_recall 91 [.ref 217, .int (nI j), .int (nI n), .int w, .int (nI q), .int (noV o), .int (nI c)] [] (jm_mk (wrA (wrA m 226 z) 221 y)) = jm_R 12 md_X7_recall 56 [.ref 217, .int (nI j), .int (nI n), .int w, .int (nI q), .int (noV (rcS z s q j n c o)), .int (nI (c + 1))] [] (jm_mk (wrA (wrA m 226 z) 221 (cp44 z (ohN (upd y 6 (nI (anN s c))) n)))) := by
          unfold rcS
          by_cases t : ovS z (anN s c) n = nI j
          · rw [if_pos ⟨u, v, t⟩]
            simp only [e_X7_recall_0, e_X7_recall_1, e_X7_recall_2, e_X7_recall_5, e_X7_recall_8, e_X7_recall_9, e_X7_recall_10, e_X7_recall_11, e_X7_recall_14, e_X7_recall_17, e_X7_recall_20, e_X7_recall_21, e_X7_recall_24, e_X7_recall_27, e_X7_recall_29, e_X7_recall_30, e_X7_recall_31, e_X7_recall_34, e_X7_recall_35, e_X7_recall_38, e_X7_recall_40, e_X7_recall_41, e_X7_recall_42, e_X7_recall_43, e_X7_recall_44, e_X7_recall_45, e_X7_recall_46, e_X7_recall_47, e_X7_recall_49, e_X7_recall_51, e_X7_recall_53, e_X7_recall_54, e_X7_recall_58, e_X7_recall_60, e_X7_recall_63, e_X7_recall_65, e_X7_recall_67, e_X7_recall_68, e_X7_recall_69, e_X7_recall_70, e_X7_recall_73, e_X7_recall_75, e_X7_recall_78, e_X7_recall_80, e_X7_recall_83, e_X7_recall_85, e_X7_recall_88, e_X7_recall_91, e_X7_recall_92, e_X7_recall_95, e_X7_recall_97, e_X7_recall_98, e_X7_recall_99, e_X7_recall_101, e_X7_recall_102, e_X7_recall_103, e_X7_recall_104, e_X7_recall_105, e_X7_recall_106, e_X7_recall_107, e_X7_recall_110, e_X7_recall_111, e_X7_recall_114, e_X7_recall_116, e_X7_recall_119, e_X7_recall_121, e_X7_recall_123, e_X7_recall_126, e_X7_recall_129, e_X7_recall_131, e_X7_recall_134, e_X7_recall_135, e_X7_recall_136, e_X7_recall_139, e_X7_recall_141, e_X7_recall_144, e_X7_recall_146, e_X7_recall_149, show (6 : Nat) < 44 by decide, wrA_at, y6, a3, wrA_up, h2, jm_bd_v, t, not_true_eq_false, if_false, nI_add]
            rfl
          · rw [if_neg (fun h => t h.2.2)]
            simp only [e_X7_recall_0, e_X7_recall_1, e_X7_recall_2, e_X7_recall_5, e_X7_recall_8, e_X7_recall_9, e_X7_recall_10, e_X7_recall_11, e_X7_recall_14, e_X7_recall_17, e_X7_recall_20, e_X7_recall_21, e_X7_recall_24, e_X7_recall_27, e_X7_recall_29, e_X7_recall_30, e_X7_recall_31, e_X7_recall_34, e_X7_recall_35, e_X7_recall_38, e_X7_recall_40, e_X7_recall_41, e_X7_recall_42, e_X7_recall_43, e_X7_recall_44, e_X7_recall_45, e_X7_recall_46, e_X7_recall_47, e_X7_recall_49, e_X7_recall_51, e_X7_recall_53, e_X7_recall_54, e_X7_recall_58, e_X7_recall_60, e_X7_recall_63, e_X7_recall_65, e_X7_recall_67, e_X7_recall_68, e_X7_recall_69, e_X7_recall_70, e_X7_recall_73, e_X7_recall_75, e_X7_recall_78, e_X7_recall_80, e_X7_recall_83, e_X7_recall_85, e_X7_recall_88, e_X7_recall_91, e_X7_recall_92, e_X7_recall_95, e_X7_recall_97, e_X7_recall_98, e_X7_recall_99, e_X7_recall_101, e_X7_recall_102, e_X7_recall_103, e_X7_recall_104, e_X7_recall_105, e_X7_recall_106, e_X7_recall_107, e_X7_recall_110, e_X7_recall_111, e_X7_recall_114, e_X7_recall_116, e_X7_recall_119, e_X7_recall_121, e_X7_recall_123, e_X7_recall_126, e_X7_recall_129, e_X7_recall_131, e_X7_recall_134, e_X7_recall_135, e_X7_recall_136, e_X7_recall_139, e_X7_recall_141, e_X7_recall_144, e_X7_recall_146, e_X7_recall_149, show (6 : Nat) < 44 by decide, wrA_at, y6, a3, wrA_up, h2, jm_bd_v, t, not_false_eq_true, if_true, nI_add]
        cases o with
        | none =>
          have hl : noV none < nI 0 := by decide
          simp only [e_X7_recall_0, e_X7_recall_1, e_X7_recall_2, e_X7_recall_5, e_X7_recall_8, e_X7_recall_9, e_X7_recall_10, e_X7_recall_11, e_X7_recall_14, e_X7_recall_17, e_X7_recall_20, e_X7_recall_21, e_X7_recall_24, e_X7_recall_27, e_X7_recall_29, e_X7_recall_30, e_X7_recall_31, e_X7_recall_34, e_X7_recall_35, e_X7_recall_38, e_X7_recall_40, e_X7_recall_41, e_X7_recall_42, e_X7_recall_43, e_X7_recall_44, e_X7_recall_45, e_X7_recall_46, e_X7_recall_47, e_X7_recall_49, e_X7_recall_51, e_X7_recall_53, e_X7_recall_54, e_X7_recall_58, e_X7_recall_60, e_X7_recall_63, e_X7_recall_65, e_X7_recall_67, e_X7_recall_68, e_X7_recall_69, e_X7_recall_70, e_X7_recall_73, e_X7_recall_75, e_X7_recall_78, e_X7_recall_80, e_X7_recall_83, e_X7_recall_85, e_X7_recall_88, e_X7_recall_92, e_X7_recall_95, e_X7_recall_97, e_X7_recall_98, e_X7_recall_99, e_X7_recall_101, e_X7_recall_102, e_X7_recall_103, e_X7_recall_104, e_X7_recall_105, e_X7_recall_106, e_X7_recall_107, e_X7_recall_110, e_X7_recall_111, e_X7_recall_114, e_X7_recall_116, e_X7_recall_119, e_X7_recall_121, e_X7_recall_123, e_X7_recall_126, e_X7_recall_129, e_X7_recall_131, e_X7_recall_134, e_X7_recall_135, e_X7_recall_136, e_X7_recall_139, e_X7_recall_141, e_X7_recall_144, e_X7_recall_146, e_X7_recall_149, h1, if_false, a1, a2, u, not_true_eq_false, hl, if_true, hgo]
        | some b =>
          have hb := ho b rfl
          have hl : ¬ noV (some b) < nI 0 := nI_nlt0 (by omega)
          have hpc : ¬ nI (pcN b) ≤ nI (pcN c) := nI_ge (by simpa [fwr] using v) (by have := pcN_le (t := b); omega)
          have e1 : noV (some b) = nI b := rfl
          have o1 := k_X7_ones (d := 11) (t := c) (M := jm_mk (wrA (wrA m 226 z) 221 y)) (by omega)
          have o2 := k_X7_ones (d := 11) (t := b) (M := jm_mk (wrA (wrA m 226 z) 221 y)) (by omega)
          rw [e1] at hl hgo ⊢
          simp only [e_X7_recall_0, e_X7_recall_1, e_X7_recall_2, e_X7_recall_5, e_X7_recall_8, e_X7_recall_9, e_X7_recall_10, e_X7_recall_11, e_X7_recall_14, e_X7_recall_17, e_X7_recall_20, e_X7_recall_21, e_X7_recall_24, e_X7_recall_27, e_X7_recall_29, e_X7_recall_30, e_X7_recall_31, e_X7_recall_34, e_X7_recall_35, e_X7_recall_38, e_X7_recall_40, e_X7_recall_41, e_X7_recall_42, e_X7_recall_43, e_X7_recall_44, e_X7_recall_45, e_X7_recall_46, e_X7_recall_47, e_X7_recall_49, e_X7_recall_51, e_X7_recall_53, e_X7_recall_54, e_X7_recall_58, e_X7_recall_60, e_X7_recall_63, e_X7_recall_65, e_X7_recall_67, e_X7_recall_68, e_X7_recall_69, e_X7_recall_70, e_X7_recall_73, e_X7_recall_75, e_X7_recall_78, e_X7_recall_80, e_X7_recall_83, e_X7_recall_85, e_X7_recall_88, e_X7_recall_92, e_X7_recall_95, e_X7_recall_97, e_X7_recall_98, e_X7_recall_99, e_X7_recall_101, e_X7_recall_102, e_X7_recall_103, e_X7_recall_104, e_X7_recall_105, e_X7_recall_106, e_X7_recall_107, e_X7_recall_110, e_X7_recall_111, e_X7_recall_114, e_X7_recall_116, e_X7_recall_119, e_X7_recall_121, e_X7_recall_123, e_X7_recall_126, e_X7_recall_129, e_X7_recall_131, e_X7_recall_134, e_X7_recall_135, e_X7_recall_136, e_X7_recall_139, e_X7_recall_141, e_X7_recall_144, e_X7_recall_146, e_X7_recall_149, h1, if_false, a1, a2, u, not_true_eq_false, hl, o1, o2, jm_bd_v, hpc, hgo]
      · obtain ⟨y', e, e'⟩ := ih (c + 1) o y hy ho (by omega)
        have e3 : rcS z s q j n c o = o := if_neg (fun h => v h.2.1)
        refine ⟨y', ?_, e'⟩
        rw [e3, ← e, e_X7_recall_56]
        cases o with
        | none => exact absurd rfl v
        | some b =>
          have hb := ho b rfl
          have hl : ¬ noV (some b) < nI 0 := nI_nlt0 (by omega)
          have hv : ¬ pcN c < pcN b := by simpa [fwr] using v
          have hpc : nI (pcN b) ≤ nI (pcN c) := nI_le (by omega) (by have := pcN_le (t := c); omega)
          have e1 : noV (some b) = nI b := rfl
          have o1 := k_X7_ones (d := 11) (t := c) (M := jm_mk (wrA (wrA m 226 z) 221 y)) (by omega)
          have o2 := k_X7_ones (d := 11) (t := b) (M := jm_mk (wrA (wrA m 226 z) 221 y)) (by omega)
          rw [e1] at hl ⊢
          simp only [e_X7_recall_0, e_X7_recall_1, e_X7_recall_2, e_X7_recall_5, e_X7_recall_8, e_X7_recall_9, e_X7_recall_10, e_X7_recall_11, e_X7_recall_14, e_X7_recall_17, e_X7_recall_20, e_X7_recall_21, e_X7_recall_24, e_X7_recall_27, e_X7_recall_29, e_X7_recall_30, e_X7_recall_31, e_X7_recall_34, e_X7_recall_35, e_X7_recall_38, e_X7_recall_40, e_X7_recall_41, e_X7_recall_42, e_X7_recall_43, e_X7_recall_44, e_X7_recall_45, e_X7_recall_46, e_X7_recall_47, e_X7_recall_49, e_X7_recall_51, e_X7_recall_53, e_X7_recall_54, e_X7_recall_58, e_X7_recall_60, e_X7_recall_63, e_X7_recall_65, e_X7_recall_67, e_X7_recall_68, e_X7_recall_69, e_X7_recall_70, e_X7_recall_73, e_X7_recall_75, e_X7_recall_78, e_X7_recall_80, e_X7_recall_83, e_X7_recall_85, e_X7_recall_88, e_X7_recall_92, e_X7_recall_95, e_X7_recall_97, e_X7_recall_98, e_X7_recall_99, e_X7_recall_101, e_X7_recall_102, e_X7_recall_103, e_X7_recall_104, e_X7_recall_105, e_X7_recall_106, e_X7_recall_107, e_X7_recall_110, e_X7_recall_111, e_X7_recall_114, e_X7_recall_116, e_X7_recall_119, e_X7_recall_121, e_X7_recall_123, e_X7_recall_126, e_X7_recall_129, e_X7_recall_131, e_X7_recall_134, e_X7_recall_135, e_X7_recall_136, e_X7_recall_139, e_X7_recall_141, e_X7_recall_144, e_X7_recall_146, e_X7_recall_149, h1, if_false, a1, a2, u, not_true_eq_false, hl, o1, o2, jm_bd_v, hpc, if_true, nI_add]
    · obtain ⟨y', e, e'⟩ := ih (c + 1) o y hy ho (by omega)
      have e3 : rcS z s q j n c o = o := if_neg (fun h => u h.1)
      refine ⟨y', ?_, e'⟩
      rw [e3, ← e, e_X7_recall_56]
      simp only [e_X7_recall_0, e_X7_recall_1, e_X7_recall_2, e_X7_recall_5, e_X7_recall_8, e_X7_recall_9, e_X7_recall_10, e_X7_recall_11, e_X7_recall_14, e_X7_recall_17, e_X7_recall_20, e_X7_recall_21, e_X7_recall_24, e_X7_recall_27, e_X7_recall_29, e_X7_recall_30, e_X7_recall_31, e_X7_recall_34, e_X7_recall_35, e_X7_recall_38, e_X7_recall_40, e_X7_recall_41, e_X7_recall_42, e_X7_recall_43, e_X7_recall_44, e_X7_recall_45, e_X7_recall_46, e_X7_recall_47, e_X7_recall_49, e_X7_recall_51, e_X7_recall_53, e_X7_recall_54, e_X7_recall_58, e_X7_recall_60, e_X7_recall_63, e_X7_recall_65, e_X7_recall_67, e_X7_recall_68, e_X7_recall_69, e_X7_recall_70, e_X7_recall_73, e_X7_recall_75, e_X7_recall_78, e_X7_recall_80, e_X7_recall_83, e_X7_recall_85, e_X7_recall_88, e_X7_recall_92, e_X7_recall_95, e_X7_recall_97, e_X7_recall_98, e_X7_recall_99, e_X7_recall_101, e_X7_recall_102, e_X7_recall_103, e_X7_recall_104, e_X7_recall_105, e_X7_recall_106, e_X7_recall_107, e_X7_recall_110, e_X7_recall_111, e_X7_recall_114, e_X7_recall_116, e_X7_recall_119, e_X7_recall_121, e_X7_recall_123, e_X7_recall_126, e_X7_recall_129, e_X7_recall_131, e_X7_recall_134, e_X7_recall_135, e_X7_recall_136, e_X7_recall_139, e_X7_recall_141, e_X7_recall_144, e_X7_recall_146, e_X7_recall_149, h1, if_false, a1, a2, u, not_false_eq_true, if_true, nI_add]
theorem api_recall (b n w : Int32) : Api md_X6_recall md_X7_recall [.int b, .int n, .int w] := by
  refine Api.try (fun m hR => ?_)
  obtain ⟨C, N, hC6, hN6, c6, m4, c5, m3, hcase⟩ := hR.isle
  have hI : jm_ia 200 = true := by decide
  by_cases hb : ¬ b < nI 0 ∧ ¬ nI N ≤ b
  · by_cases hn : ¬ n < nI 1 ∧ ¬ nI 40 < n
    · by_cases hw : ¬ w < nI 0 ∧ ¬ nI 1 < w
      · obtain ⟨j, hj, rfl⟩ := ix_of hb (by omega)
        obtain ⟨k, -, hk, rfl⟩ := rg_of hn (by omega) (by omega)
        rcases hcase with ⟨q, -⟩ | ⟨-, q2, g⟩
        · omega
        obtain ⟨s, hs, ms, ms'⟩ := g.sent
        have ms : m 200 7 = nI s := ms
        have hp := pow_le hN6
        have hj6 : 2 ^ j < 64 := Nat.lt_of_lt_of_le (Nat.pow_lt_pow_right (by decide) hj) hp
        have eq : nI s &&& ((nI 1 <<< (nI j &&& 31)) ^^^ (-1)) = nI (anN s (2 ^ j)) := by rw [shl_1 j (by omega)]; exact an_I (by omega) hj6
        have hq : anN s (2 ^ j) < 2 ^ N := by have := an_le (show s < 64 by omega) hj6; omega
        generalize anN s (2 ^ j) = q at eq hq
        obtain ⟨x1, e1⟩ := lp_X4_recall (d := 6) (m := m) (n := k) (q := q) (j := j) (by omega) g hs hq ms (2 ^ N) 0 none (vwI m 208) (fun b hb => by cases hb) (by omega)
        rw [wrI_self] at e1
        have hlt := fwL_lt (B := 2 ^ N) (st := rcS (m 221) s q j k) rcS_lt (k := 2 ^ N) (c := 0) (o := none) (by omega) (fun b hb => by cases hb)
        have hc : jm_K 11 md_X4_fewestKeptHome [.ref 207, .int (nI j), .int (nI k)] (jm_mk m) = some (some (.int (ovI (fwL (rcS (m 221) s q j k) (2 ^ N) 0 none))), jm_mk (wrI m 208 x1)) := by
          show jm_R 11 md_X4_fewestKeptHome 0 [.ref 207, .int (nI j), .int (nI k), .null, .null, .null] [] _ = _
          simp only [e_X4_fewestKeptHome_0, e_X4_fewestKeptHome_1, e_X4_fewestKeptHome_4, e_X4_fewestKeptHome_7, e_X4_fewestKeptHome_8, e_X4_fewestKeptHome_9, e_X4_fewestKeptHome_10, e_X4_fewestKeptHome_11, e_X4_fewestKeptHome_12, e_X4_fewestKeptHome_13, e_X4_fewestKeptHome_14, e_X4_fewestKeptHome_15, e_X4_fewestKeptHome_17, e_X4_fewestKeptHome_18, e_X4_fewestKeptHome_22, e_X4_fewestKeptHome_23, e_X4_fewestKeptHome_24, e_X4_fewestKeptHome_27, e_X4_fewestKeptHome_30, e_X4_fewestKeptHome_31, e_X4_fewestKeptHome_34, e_X4_fewestKeptHome_36, e_X4_fewestKeptHome_37, e_X4_fewestKeptHome_38, e_X4_fewestKeptHome_39, e_X4_fewestKeptHome_40, e_X4_fewestKeptHome_43, e_X4_fewestKeptHome_45, e_X4_fewestKeptHome_47, e_X4_fewestKeptHome_50, e_X4_fewestKeptHome_53, e_X4_fewestKeptHome_56, e_X4_fewestKeptHome_57, e_X4_fewestKeptHome_58, e_X4_fewestKeptHome_61, e_X4_fewestKeptHome_64, e_X4_fewestKeptHome_66, e_X4_fewestKeptHome_67, e_X4_fewestKeptHome_68, e_X4_fewestKeptHome_69, e_X4_fewestKeptHome_70, e_X4_fewestKeptHome_73, e_X4_fewestKeptHome_74, e_X4_fewestKeptHome_77, e_X4_fewestKeptHome_79, e_X4_fewestKeptHome_81, e_X4_fewestKeptHome_84, e_X4_fewestKeptHome_87, e_X4_fewestKeptHome_89, hI, ms, eq]
          exact e1
        have gz : GN C N (vwI m 200) (cp44 (m 221) (m 226)) := g.congr (fun i hi => cp44_lt hi)
        have hz := k_X6_sizeOrSet (d := 10) (o := fwL (rcS (m 221) s q j k) (2 ^ N) 0 none) (w := w) (m := wrI m 208 x1) (fun b hb => by have := hlt b hb; omega)
        refine ⟨.int (szV (fwL (rcS (m 221) s q j k) (2 ^ N) 0 none) w), x1, ?_, fun m1 hm => ?_⟩
        · show jm_R 12 md_X6_recall 0 [.ref 0, .int (nI j), .int (nI k), .int w] [] _ = _
          simp only [e_X6_recall_0, e_X6_recall_1, e_X6_recall_4, e_X6_recall_5, e_X6_recall_8, e_X6_recall_11, e_X6_recall_12, e_X6_recall_13, e_X6_recall_15, e_X6_recall_18, e_X6_recall_21, e_X6_recall_22, e_X6_recall_23, e_X6_recall_24, e_X6_recall_27, e_X6_recall_30, e_X6_recall_32, e_X6_recall_33, e_X6_recall_34, e_X6_recall_37, e_X6_recall_38, e_X6_recall_39, e_X6_recall_42, e_X6_recall_43, e_X6_recall_46, k_X2_hasBoat hI, k_X2_stands hI, k_X2_hasCell hI, c6, c5, k_X6_within, jm_bd_v, jm_bd_0, bv1, if_false, if_true, not_false_eq_true, not_true_eq_false, if_pos hb, if_pos hn, if_pos hw, hc, hz]
        · have z6 : cp44 (m 221) (m 226) 6 = nI s := by rw [cp44_lt (by decide)]; exact ms'
          obtain ⟨y2, e2, e3⟩ := lp_X7_recall (w := w) (j := j) (m := m1) (n := k) (by omega) gz hs hq z6 (q + 1) 0 none (m 221) (fun i hi => (cp44_lt hi).symm) (fun b hb => by cases hb) (by omega)
          refine ⟨cp44 (m 221) (m 226), y2, ?_, fun i hi => by rw [e3 i hi, cp44_lt hi]⟩
          have e5 := k_X7_isBoat (d := 10) (m := wrA (wrA m1 226 (m 226)) 221 (m 221)) (b := nI j) (by rw [wrA_at]; exact m4) hN6
          have e6 : fwL (rcS (cp44 (m 221) (m 226)) s q j k) (q + 1) 0 none = fwL (rcS (m 221) s q j k) (2 ^ N) 0 none := by
            have e7 : fwL (rcS (cp44 (m 221) (m 226)) s q j k) (q + 1) 0 none = fwL (rcS (m 221) s q j k) (q + 1) 0 none := fwL_congr (fun c h1 h2 o => by
              unfold rcS
              rw [gz.ovs g (by have := an_le (show s < 64 by omega) (show c < 64 by omega); omega) k])
            have e8 : fwL (rcS (m 221) s q j k) ((q + 1) + (2 ^ N - (q + 1))) 0 none = fwL (rcS (m 221) s q j k) (q + 1) 0 none := by
              rw [fwL_add]
              refine fwL_id (fun c h1 h2 o => ?_)
              unfold rcS
              refine if_neg (fun h => ?_)
              have := an_0 (show c < 64 by omega) (show q < 64 by omega) h.1
              omega
            rw [show (q + 1) + (2 ^ N - (q + 1)) = 2 ^ N by omega] at e8
            rw [e7, e8]
          rw [e6] at e2
          show jm_R 12 md_X7_recall 0 [.ref 217, .int (nI j), .int (nI k), .int w, .null, .null, .null] [] _ = _
          simp only [e_X7_recall_0, e_X7_recall_1, e_X7_recall_2, e_X7_recall_5, e_X7_recall_8, e_X7_recall_9, e_X7_recall_10, e_X7_recall_11, e_X7_recall_14, e_X7_recall_17, e_X7_recall_20, e_X7_recall_21, e_X7_recall_24, e_X7_recall_27, e_X7_recall_29, e_X7_recall_30, e_X7_recall_31, e_X7_recall_34, e_X7_recall_35, e_X7_recall_38, e_X7_recall_40, e_X7_recall_41, e_X7_recall_42, e_X7_recall_43, e_X7_recall_44, e_X7_recall_45, e_X7_recall_46, e_X7_recall_47, e_X7_recall_49, e_X7_recall_51, e_X7_recall_53, e_X7_recall_54, e_X7_recall_58, e_X7_recall_60, e_X7_recall_63, e_X7_recall_65, e_X7_recall_67, e_X7_recall_68, e_X7_recall_69, e_X7_recall_70, e_X7_recall_73, e_X7_recall_75, e_X7_recall_78, e_X7_recall_80, e_X7_recall_83, e_X7_recall_85, e_X7_recall_88, e_X7_recall_91, e_X7_recall_92, e_X7_recall_95, e_X7_recall_97, e_X7_recall_98, e_X7_recall_99, e_X7_recall_101, e_X7_recall_102, e_X7_recall_103, e_X7_recall_104, e_X7_recall_105, e_X7_recall_106, e_X7_recall_107, e_X7_recall_110, e_X7_recall_111, e_X7_recall_114, e_X7_recall_116, e_X7_recall_119, e_X7_recall_121, e_X7_recall_123, e_X7_recall_126, e_X7_recall_129, e_X7_recall_131, e_X7_recall_134, e_X7_recall_135, e_X7_recall_136, e_X7_recall_139, e_X7_recall_141, e_X7_recall_144, e_X7_recall_146, e_X7_recall_149, e5, in_1_40, k_X7_isWhat, jm_bd_v, jm_bd_0, bv1, if_false, if_true, not_false_eq_true, not_true_eq_false, if_pos hb, if_pos hn, if_pos hw, k_X7_putAside, show (6 : Nat) < 44 by decide, wrA_at, ms', eq]
          refine e2.trans ?_
          cases hf : fwL (rcS (m 221) s q j k) (2 ^ N) 0 none with
          | none =>
            have hl : noV none < nI 0 := by decide
            simp only [e_X7_recall_0, e_X7_recall_1, e_X7_recall_2, e_X7_recall_5, e_X7_recall_8, e_X7_recall_9, e_X7_recall_10, e_X7_recall_11, e_X7_recall_14, e_X7_recall_17, e_X7_recall_20, e_X7_recall_21, e_X7_recall_24, e_X7_recall_27, e_X7_recall_29, e_X7_recall_30, e_X7_recall_31, e_X7_recall_34, e_X7_recall_35, e_X7_recall_38, e_X7_recall_40, e_X7_recall_41, e_X7_recall_42, e_X7_recall_43, e_X7_recall_44, e_X7_recall_45, e_X7_recall_46, e_X7_recall_47, e_X7_recall_49, e_X7_recall_51, e_X7_recall_53, e_X7_recall_54, e_X7_recall_58, e_X7_recall_60, e_X7_recall_63, e_X7_recall_65, e_X7_recall_67, e_X7_recall_68, e_X7_recall_69, e_X7_recall_70, e_X7_recall_73, e_X7_recall_75, e_X7_recall_78, e_X7_recall_80, e_X7_recall_83, e_X7_recall_85, e_X7_recall_88, e_X7_recall_91, e_X7_recall_92, e_X7_recall_95, e_X7_recall_97, e_X7_recall_98, e_X7_recall_99, e_X7_recall_101, e_X7_recall_102, e_X7_recall_103, e_X7_recall_104, e_X7_recall_105, e_X7_recall_106, e_X7_recall_107, e_X7_recall_110, e_X7_recall_111, e_X7_recall_114, e_X7_recall_116, e_X7_recall_119, e_X7_recall_121, e_X7_recall_123, e_X7_recall_126, e_X7_recall_129, e_X7_recall_131, e_X7_recall_134, e_X7_recall_135, e_X7_recall_136, e_X7_recall_139, e_X7_recall_141, e_X7_recall_144, e_X7_recall_146, e_X7_recall_149, hl, if_true]
            rfl
          | some b =>
            have hb := hlt b hf
            have hl : ¬ nI b < nI 0 := nI_nlt0 (by omega)
            have e1 : noV (some b) = nI b := rfl
            have o2 := k_X7_ones (d := 11) (t := b) (M := jm_mk (wrA (wrA m1 226 (cp44 (m 221) (m 226))) 221 y2)) (by omega)
            rw [e1]
            rcases szw hw with rfl | rfl
            · simp only [e_X7_recall_0, e_X7_recall_1, e_X7_recall_2, e_X7_recall_5, e_X7_recall_8, e_X7_recall_9, e_X7_recall_10, e_X7_recall_11, e_X7_recall_14, e_X7_recall_17, e_X7_recall_20, e_X7_recall_21, e_X7_recall_24, e_X7_recall_27, e_X7_recall_29, e_X7_recall_30, e_X7_recall_31, e_X7_recall_34, e_X7_recall_35, e_X7_recall_38, e_X7_recall_40, e_X7_recall_41, e_X7_recall_42, e_X7_recall_43, e_X7_recall_44, e_X7_recall_45, e_X7_recall_46, e_X7_recall_47, e_X7_recall_49, e_X7_recall_51, e_X7_recall_53, e_X7_recall_54, e_X7_recall_58, e_X7_recall_60, e_X7_recall_63, e_X7_recall_65, e_X7_recall_67, e_X7_recall_68, e_X7_recall_69, e_X7_recall_70, e_X7_recall_73, e_X7_recall_75, e_X7_recall_78, e_X7_recall_80, e_X7_recall_83, e_X7_recall_85, e_X7_recall_88, e_X7_recall_91, e_X7_recall_92, e_X7_recall_95, e_X7_recall_97, e_X7_recall_98, e_X7_recall_99, e_X7_recall_101, e_X7_recall_102, e_X7_recall_103, e_X7_recall_104, e_X7_recall_105, e_X7_recall_106, e_X7_recall_107, e_X7_recall_110, e_X7_recall_111, e_X7_recall_114, e_X7_recall_116, e_X7_recall_119, e_X7_recall_121, e_X7_recall_123, e_X7_recall_126, e_X7_recall_129, e_X7_recall_131, e_X7_recall_134, e_X7_recall_135, e_X7_recall_136, e_X7_recall_139, e_X7_recall_141, e_X7_recall_144, e_X7_recall_146, e_X7_recall_149, hl, if_false, show ¬ nI 0 = nI 1 by decide, not_false_eq_true, if_true, o2, jm_bd_v, szV]
            · simp only [e_X7_recall_0, e_X7_recall_1, e_X7_recall_2, e_X7_recall_5, e_X7_recall_8, e_X7_recall_9, e_X7_recall_10, e_X7_recall_11, e_X7_recall_14, e_X7_recall_17, e_X7_recall_20, e_X7_recall_21, e_X7_recall_24, e_X7_recall_27, e_X7_recall_29, e_X7_recall_30, e_X7_recall_31, e_X7_recall_34, e_X7_recall_35, e_X7_recall_38, e_X7_recall_40, e_X7_recall_41, e_X7_recall_42, e_X7_recall_43, e_X7_recall_44, e_X7_recall_45, e_X7_recall_46, e_X7_recall_47, e_X7_recall_49, e_X7_recall_51, e_X7_recall_53, e_X7_recall_54, e_X7_recall_58, e_X7_recall_60, e_X7_recall_63, e_X7_recall_65, e_X7_recall_67, e_X7_recall_68, e_X7_recall_69, e_X7_recall_70, e_X7_recall_73, e_X7_recall_75, e_X7_recall_78, e_X7_recall_80, e_X7_recall_83, e_X7_recall_85, e_X7_recall_88, e_X7_recall_91, e_X7_recall_92, e_X7_recall_95, e_X7_recall_97, e_X7_recall_98, e_X7_recall_99, e_X7_recall_101, e_X7_recall_102, e_X7_recall_103, e_X7_recall_104, e_X7_recall_105, e_X7_recall_106, e_X7_recall_107, e_X7_recall_110, e_X7_recall_111, e_X7_recall_114, e_X7_recall_116, e_X7_recall_119, e_X7_recall_121, e_X7_recall_123, e_X7_recall_126, e_X7_recall_129, e_X7_recall_131, e_X7_recall_134, e_X7_recall_135, e_X7_recall_136, e_X7_recall_139, e_X7_recall_141, e_X7_recall_144, e_X7_recall_146, e_X7_recall_149, hl, if_false, bv1, not_true_eq_false, szV]
      · refine Api.no (r := .int (-1000001)) ?_ (fun m' h7 h1 => ?_)
        · show jm_R 12 md_X6_recall 0 [.ref 0, .int b, .int n, .int w] [] _ = _
          simp only [e_X6_recall_0, e_X6_recall_1, e_X6_recall_4, e_X6_recall_5, e_X6_recall_8, e_X6_recall_11, e_X6_recall_12, e_X6_recall_13, e_X6_recall_15, e_X6_recall_18, e_X6_recall_21, e_X6_recall_22, e_X6_recall_23, e_X6_recall_24, e_X6_recall_27, e_X6_recall_30, e_X6_recall_32, e_X6_recall_33, e_X6_recall_34, e_X6_recall_37, e_X6_recall_38, e_X6_recall_39, e_X6_recall_42, e_X6_recall_43, e_X6_recall_46, k_X2_hasBoat hI, k_X2_stands hI, k_X2_hasCell hI, c6, c5, k_X6_within, jm_bd_v, jm_bd_0, bv1, if_false, if_true, not_false_eq_true, not_true_eq_false, if_pos hb, if_pos hn, if_neg hw]
        · show jm_R 12 md_X7_recall 0 [.ref 217, .int b, .int n, .int w, .null, .null, .null] [] _ = _
          have m4' : m' 221 4 = nI N := by rw [h1]; exact m4
          simp only [e_X7_recall_0, e_X7_recall_1, e_X7_recall_2, e_X7_recall_5, e_X7_recall_8, e_X7_recall_9, e_X7_recall_10, e_X7_recall_11, e_X7_recall_14, e_X7_recall_17, e_X7_recall_20, e_X7_recall_21, e_X7_recall_24, e_X7_recall_27, e_X7_recall_29, e_X7_recall_30, e_X7_recall_31, e_X7_recall_34, e_X7_recall_35, e_X7_recall_38, e_X7_recall_40, e_X7_recall_41, e_X7_recall_42, e_X7_recall_43, e_X7_recall_44, e_X7_recall_45, e_X7_recall_46, e_X7_recall_47, e_X7_recall_49, e_X7_recall_51, e_X7_recall_53, e_X7_recall_54, e_X7_recall_58, e_X7_recall_60, e_X7_recall_63, e_X7_recall_65, e_X7_recall_67, e_X7_recall_68, e_X7_recall_69, e_X7_recall_70, e_X7_recall_73, e_X7_recall_75, e_X7_recall_78, e_X7_recall_80, e_X7_recall_83, e_X7_recall_85, e_X7_recall_88, e_X7_recall_91, e_X7_recall_92, e_X7_recall_95, e_X7_recall_97, e_X7_recall_98, e_X7_recall_99, e_X7_recall_101, e_X7_recall_102, e_X7_recall_103, e_X7_recall_104, e_X7_recall_105, e_X7_recall_106, e_X7_recall_107, e_X7_recall_110, e_X7_recall_111, e_X7_recall_114, e_X7_recall_116, e_X7_recall_119, e_X7_recall_121, e_X7_recall_123, e_X7_recall_126, e_X7_recall_129, e_X7_recall_131, e_X7_recall_134, e_X7_recall_135, e_X7_recall_136, e_X7_recall_139, e_X7_recall_141, e_X7_recall_144, e_X7_recall_146, e_X7_recall_149, k_X7_isBoat m4' hN6, in_1_40, k_X7_isWhat, jm_bd_v, jm_bd_0, bv1, if_false, if_true, not_false_eq_true, not_true_eq_false, if_pos hb, if_pos hn, if_neg hw]
    · refine Api.no (r := .int (-1000001)) ?_ (fun m' h7 h1 => ?_)
      · show jm_R 12 md_X6_recall 0 [.ref 0, .int b, .int n, .int w] [] _ = _
        simp only [e_X6_recall_0, e_X6_recall_1, e_X6_recall_4, e_X6_recall_5, e_X6_recall_8, e_X6_recall_11, e_X6_recall_12, e_X6_recall_13, e_X6_recall_15, e_X6_recall_18, e_X6_recall_21, e_X6_recall_22, e_X6_recall_23, e_X6_recall_24, e_X6_recall_27, e_X6_recall_30, e_X6_recall_32, e_X6_recall_33, e_X6_recall_34, e_X6_recall_37, e_X6_recall_38, e_X6_recall_39, e_X6_recall_42, e_X6_recall_43, e_X6_recall_46, k_X2_hasBoat hI, k_X2_stands hI, k_X2_hasCell hI, c6, c5, k_X6_within, jm_bd_v, jm_bd_0, bv1, if_false, if_true, not_false_eq_true, not_true_eq_false, if_pos hb, if_neg hn]
      · show jm_R 12 md_X7_recall 0 [.ref 217, .int b, .int n, .int w, .null, .null, .null] [] _ = _
        have m4' : m' 221 4 = nI N := by rw [h1]; exact m4
        simp only [e_X7_recall_0, e_X7_recall_1, e_X7_recall_2, e_X7_recall_5, e_X7_recall_8, e_X7_recall_9, e_X7_recall_10, e_X7_recall_11, e_X7_recall_14, e_X7_recall_17, e_X7_recall_20, e_X7_recall_21, e_X7_recall_24, e_X7_recall_27, e_X7_recall_29, e_X7_recall_30, e_X7_recall_31, e_X7_recall_34, e_X7_recall_35, e_X7_recall_38, e_X7_recall_40, e_X7_recall_41, e_X7_recall_42, e_X7_recall_43, e_X7_recall_44, e_X7_recall_45, e_X7_recall_46, e_X7_recall_47, e_X7_recall_49, e_X7_recall_51, e_X7_recall_53, e_X7_recall_54, e_X7_recall_58, e_X7_recall_60, e_X7_recall_63, e_X7_recall_65, e_X7_recall_67, e_X7_recall_68, e_X7_recall_69, e_X7_recall_70, e_X7_recall_73, e_X7_recall_75, e_X7_recall_78, e_X7_recall_80, e_X7_recall_83, e_X7_recall_85, e_X7_recall_88, e_X7_recall_91, e_X7_recall_92, e_X7_recall_95, e_X7_recall_97, e_X7_recall_98, e_X7_recall_99, e_X7_recall_101, e_X7_recall_102, e_X7_recall_103, e_X7_recall_104, e_X7_recall_105, e_X7_recall_106, e_X7_recall_107, e_X7_recall_110, e_X7_recall_111, e_X7_recall_114, e_X7_recall_116, e_X7_recall_119, e_X7_recall_121, e_X7_recall_123, e_X7_recall_126, e_X7_recall_129, e_X7_recall_131, e_X7_recall_134, e_X7_recall_135, e_X7_recall_136, e_X7_recall_139, e_X7_recall_141, e_X7_recall_144, e_X7_recall_146, e_X7_recall_149, k_X7_isBoat m4' hN6, in_1_40, jm_bd_v, jm_bd_0, bv1, if_false, if_true, not_false_eq_true, not_true_eq_false, if_pos hb, if_neg hn]
  · refine Api.no (r := .int (-1000001)) ?_ (fun m' h7 h1 => ?_)
    · show jm_R 12 md_X6_recall 0 [.ref 0, .int b, .int n, .int w] [] _ = _
      simp only [e_X6_recall_0, e_X6_recall_1, e_X6_recall_4, e_X6_recall_5, e_X6_recall_8, e_X6_recall_11, e_X6_recall_12, e_X6_recall_13, e_X6_recall_15, e_X6_recall_18, e_X6_recall_21, e_X6_recall_22, e_X6_recall_23, e_X6_recall_24, e_X6_recall_27, e_X6_recall_30, e_X6_recall_32, e_X6_recall_33, e_X6_recall_34, e_X6_recall_37, e_X6_recall_38, e_X6_recall_39, e_X6_recall_42, e_X6_recall_43, e_X6_recall_46, k_X2_hasBoat hI, k_X2_stands hI, k_X2_hasCell hI, c6, c5, k_X6_within, jm_bd_v, jm_bd_0, bv1, if_false, if_true, not_false_eq_true, not_true_eq_false, if_neg hb]
    · show jm_R 12 md_X7_recall 0 [.ref 217, .int b, .int n, .int w, .null, .null, .null] [] _ = _
      have m4' : m' 221 4 = nI N := by rw [h1]; exact m4
      simp only [e_X7_recall_0, e_X7_recall_1, e_X7_recall_2, e_X7_recall_5, e_X7_recall_8, e_X7_recall_9, e_X7_recall_10, e_X7_recall_11, e_X7_recall_14, e_X7_recall_17, e_X7_recall_20, e_X7_recall_21, e_X7_recall_24, e_X7_recall_27, e_X7_recall_29, e_X7_recall_30, e_X7_recall_31, e_X7_recall_34, e_X7_recall_35, e_X7_recall_38, e_X7_recall_40, e_X7_recall_41, e_X7_recall_42, e_X7_recall_43, e_X7_recall_44, e_X7_recall_45, e_X7_recall_46, e_X7_recall_47, e_X7_recall_49, e_X7_recall_51, e_X7_recall_53, e_X7_recall_54, e_X7_recall_58, e_X7_recall_60, e_X7_recall_63, e_X7_recall_65, e_X7_recall_67, e_X7_recall_68, e_X7_recall_69, e_X7_recall_70, e_X7_recall_73, e_X7_recall_75, e_X7_recall_78, e_X7_recall_80, e_X7_recall_83, e_X7_recall_85, e_X7_recall_88, e_X7_recall_91, e_X7_recall_92, e_X7_recall_95, e_X7_recall_97, e_X7_recall_98, e_X7_recall_99, e_X7_recall_101, e_X7_recall_102, e_X7_recall_103, e_X7_recall_104, e_X7_recall_105, e_X7_recall_106, e_X7_recall_107, e_X7_recall_110, e_X7_recall_111, e_X7_recall_114, e_X7_recall_116, e_X7_recall_119, e_X7_recall_121, e_X7_recall_123, e_X7_recall_126, e_X7_recall_129, e_X7_recall_131, e_X7_recall_134, e_X7_recall_135, e_X7_recall_136, e_X7_recall_139, e_X7_recall_141, e_X7_recall_144, e_X7_recall_146, e_X7_recall_149, k_X7_isBoat m4' hN6, jm_bd_v, jm_bd_0, bv1, if_false, if_true, not_false_eq_true, not_true_eq_false, if_neg hb]
