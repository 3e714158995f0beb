/-! fleet, recall -/
def ovS (y : Nat → Int32) (s n : Nat) : Int32 := ohN (upd y 6 (nI s)) n 7
theorem GN.ovs {C N s : Nat} {x : Nat → Nat → Int32} {y y' : Nat → Int32} (g : GN C N x y) (g' : GN C N x y') (hs : s < 2 ^ N) (n : Nat) : ovS y s n = ovS y' s n := (g.snt hs).own2 (g'.snt hs) n
theorem k_X4_ownerBySent {d C N n s : Nat} {m x : Nat → Nat → Int32} {y : Nat → Int32} (hn : n < 1000) (hs : s < 2 ^ N) (g : GN C N (vwI m 200) y) : ∃ x', jm_K (d + 4) md_X4_ownerBySent [.ref 207, .int (nI s), .int (nI n)] (jm_mk (wrI m 208 x)) = some (some (.int (ovS y s n)), jm_mk (wrI m 208 x')) := by
  have ha : jm_ia 208 = true := by decide
  have g1 := (g.bec (w := x)).snt hs
  have h2 := k_X2_passAll (d := d) (m := m) (n := n) ha hn g1.gx
  refine ⟨pasN (jm_up (becI x (vwI m 200)) 0 7 (nI s)) n, ?_⟩
  show jm_R (d + 4) md_X4_ownerBySent 0 [.ref 207, .int (nI s), .int (nI n)] [] _ = _
  simp only [e_X4_ownerBySent_0, e_X4_ownerBySent_1, e_X4_ownerBySent_4, e_X4_ownerBySent_5, e_X4_ownerBySent_8, e_X4_ownerBySent_11, e_X4_ownerBySent_12, e_X4_ownerBySent_15, e_X4_ownerBySent_16, e_X4_ownerBySent_19, e_X4_ownerBySent_20, e_X4_ownerBySent_23, e_X4_ownerBySent_24, e_X4_ownerBySent_27, e_X4_ownerBySent_28, e_X4_ownerBySent_31, e_X4_ownerBySent_34, k_bec, jm_bd_0, ha, wrI_u0, h2, wrI_0]
  rw [g1.own n]
  rfl
def fwr (c : Nat) : Option Nat → Bool
  | none => true
  | some b => decide (pcN c < pcN b)
theorem k_X4_isFewer {d c : Nat} {o : Option Nat} {m : Nat → Nat → Int32} (hc : c < 64) (ho : ∀ b, o = some b → b < 64) : jm_K (d + 1) md_X4_isFewer [.int (nI c), .int (ovI o)] (jm_mk m) = some (some (.int (if fwr c o = true then nI 1 else nI 0)), jm_mk m) := by
  show jm_R (d + 1) md_X4_isFewer 0 [.int (nI c), .int (ovI o)] [] _ = _
  cases o with
  | none => simp only [e_X4_isFewer_0, e_X4_isFewer_1, e_X4_isFewer_2, e_X4_isFewer_5, e_X4_isFewer_6, e_X4_isFewer_9, e_X4_isFewer_10, e_X4_isFewer_13, e_X4_isFewer_16, e_X4_isFewer_17, e_X4_isFewer_20, e_X4_isFewer_21, ovI, if_true, fwr, true_or, or_true]
  | some b =>
    have hb := ho b rfl
    simp only [e_X4_isFewer_0, e_X4_isFewer_1, e_X4_isFewer_2, e_X4_isFewer_5, e_X4_isFewer_6, e_X4_isFewer_9, e_X4_isFewer_10, e_X4_isFewer_13, e_X4_isFewer_16, e_X4_isFewer_17, e_X4_isFewer_20, e_X4_isFewer_21, ovI, nI_m1 (show b < 2 ^ 31 by omega), if_false, k_bitCount hc, k_bitCount hb, jm_bd_v, fwr, true_or, or_true, decide_eq_true_eq]
    by_cases q : pcN c < pcN b
    · have h1 : ¬ nI (pcN b) ≤ nI (pcN c) := nI_ge q (by have := pcN_le (t := b); omega)
      simp only [h1, if_false, q, if_true]
    · have h1 : nI (pcN b) ≤ nI (pcN c) := nI_le (by omega) (by have := pcN_le (t := c); omega)
      simp only [h1, if_false, q, if_true]
def szV (o : Option Nat) (w : Int32) : Int32 := match o with
  | none => -1000000
  | some b => if w = nI 0 then nI (pcN b) else nI b
theorem k_X6_sizeOrSet {d : Nat} {o : Option Nat} {w : Int32} {m : Nat → Nat → Int32} (ho : ∀ b, o = some b → b < 64) : jm_K (d + 1) md_X6_sizeOrSet [.int (ovI o), .int w] (jm_mk m) = some (some (.int (szV o w)), jm_mk m) := by
  show jm_R (d + 1) md_X6_sizeOrSet 0 [.int (ovI o), .int w] [] _ = _
  cases o with
  | none => simp only [e_X6_sizeOrSet_0, e_X6_sizeOrSet_1, e_X6_sizeOrSet_2, e_X6_sizeOrSet_5, e_X6_sizeOrSet_7, e_X6_sizeOrSet_8, e_X6_sizeOrSet_9, e_X6_sizeOrSet_12, e_X6_sizeOrSet_13, e_X6_sizeOrSet_16, e_X6_sizeOrSet_19, e_X6_sizeOrSet_20, ovI, not_true_eq_false, if_false, szV]
  | some b =>
    have hb := ho b rfl
    simp only [e_X6_sizeOrSet_0, e_X6_sizeOrSet_1, e_X6_sizeOrSet_2, e_X6_sizeOrSet_5, e_X6_sizeOrSet_7, e_X6_sizeOrSet_8, e_X6_sizeOrSet_9, e_X6_sizeOrSet_12, e_X6_sizeOrSet_13, e_X6_sizeOrSet_16, e_X6_sizeOrSet_19, e_X6_sizeOrSet_20, ovI, nI_m1 (show b < 2 ^ 31 by omega), not_false_eq_true, if_true, k_bitCount hb, jm_bd_v, szV]
    by_cases q : w = nI 0
    · simp only [if_pos q, if_neg (fun h : ¬ w = nI 0 => h q)]
    · simp only [if_neg q, if_pos q]
def fwL (st : Nat → Option Nat → Option Nat) : Nat → Nat → Option Nat → Option Nat
  | 0, _, o => o
  | k + 1, c, o => fwL st k (c + 1) (st c o)
theorem fwL_s {st : Nat → Option Nat → Option Nat} {k c : Nat} {o : Option Nat} : fwL st (k + 1) c o = fwL st k (c + 1) (st c o) := rfl
theorem fwL_id {st : Nat → Option Nat → Option Nat} : ∀ {k c : Nat} {o : Option Nat}, (∀ c', c ≤ c' → c' < c + k → ∀ o, st c' o = o) → fwL st k c o = o
  | 0, c, o, _ => rfl
  | k + 1, c, o, h => by
    rw [fwL_s, h c (Nat.le_refl _) (by omega) o]
    exact fwL_id (fun c' h1 h2 o => h c' (by omega) (by omega) o)
theorem fwL_add {st : Nat → Option Nat → Option Nat} : ∀ {a b c : Nat} {o : Option Nat}, fwL st (a + b) c o = fwL st b (c + a) (fwL st a c o)
  | 0, b, c, o => by rw [Nat.zero_add]; rfl
  | a + 1, b, c, o => by
    rw [show a + 1 + b = a + b + 1 by omega, fwL_s, fwL_s, fwL_add, show c + 1 + a = c + (a + 1) by omega]
theorem fwL_congr {st st' : Nat → Option Nat → Option Nat} : ∀ {k c : Nat} {o : Option Nat}, (∀ c', c ≤ c' → c' < c + k → ∀ o, st c' o = st' c' o) → fwL st k c o = fwL st' k c o
  | 0, c, o, _ => rfl
  | k + 1, c, o, h => by
    rw [fwL_s, fwL_s, h c (Nat.le_refl _) (by omega) o]
    exact fwL_congr (fun c' h1 h2 o => h c' (by omega) (by omega) o)
theorem fwL_lt {st : Nat → Option Nat → Option Nat} {B : Nat} (hst : ∀ c o, c < B → (∀ b, o = some b → b < B) → ∀ b, st c o = some b → b < B) : ∀ {k c : Nat} {o : Option Nat}, c + k ≤ B → (∀ b, o = some b → b < B) → ∀ b, fwL st k c o = some b → b < B
  | 0, c, o, _, h => h
  | k + 1, c, o, hk, h => by
    rw [fwL_s]
    exact fwL_lt hst (by omega) (hst c o (by omega) h)
set_option maxRecDepth 100000 in
theorem shl_1 : ∀ N, N ≤ 6 → nI 1 <<< (nI N &&& 31) = nI (2 ^ N) := by decide +kernel
def flS (y : Nat → Int32) (n c : Nat) (o : Option Nat) : Option Nat := if fwr c o = true ∧ ¬ ovS y c n = -1 then some c else o
theorem flS_lt {y : Nat → Int32} {n B : Nat} (c : Nat) (o : Option Nat) (hc : c < B) (ho : ∀ b, o = some b → b < B) : ∀ b, flS y n c o = some b → b < B := by
  intro b h
  unfold flS at h
  by_cases q : fwr c o = true ∧ ¬ ovS y c n = -1
  · rw [if_pos q] at h; cases h; exact hc
  · rw [if_neg q] at h; exact ho b h
theorem lp_X4_fewestSent {d C N n : Nat} {m : Nat → Nat → Int32} {y : Nat → Int32} (hn : n < 1000) (g : GN C N (vwI m 200) y) : ∀ (k c : Nat) (o : Option Nat) (x : Nat → Nat → Int32), (∀ b, o = some b → b < 2 ^ N) → c + k = 2 ^ N → ∃ x', jm_R (d + 5) md_X4_fewestSent 4 [.ref 207, .int (nI n), .int (ovI o), .int (nI c)] [] (jm_mk (wrI m 208 x)) = some (some (.int (ovI (fwL (flS y n) k c o))), jm_mk (wrI m 208 x')) := by
  have hI : jm_ia 200 = true := by decide
  have hN6 := g.N6
  have hp := pow_le hN6
  have c6 : ∀ x, wrI m 208 x 200 6 = nI N := fun x => by
    rw [wrI_o (by decide)]
    obtain ⟨o, a1, a2, a3, -⟩ := g.all
    exact a3
  have es := shl_1 N hN6
  intro k
  induction k with
  | zero =>
    intro c o x ho h
    have h1 : nI (2 ^ N) ≤ nI c := nI_le (by omega) (by omega)
    refine ⟨x, ?_⟩
    rw [e_X4_fewestSent_4]
    simp only [e_X4_fewestSent_0, e_X4_fewestSent_1, e_X4_fewestSent_2, e_X4_fewestSent_3, e_X4_fewestSent_5, e_X4_fewestSent_6, e_X4_fewestSent_7, e_X4_fewestSent_10, e_X4_fewestSent_13, e_X4_fewestSent_14, e_X4_fewestSent_17, e_X4_fewestSent_18, e_X4_fewestSent_19, e_X4_fewestSent_22, e_X4_fewestSent_25, e_X4_fewestSent_26, e_X4_fewestSent_27, e_X4_fewestSent_28, e_X4_fewestSent_31, e_X4_fewestSent_32, e_X4_fewestSent_35, e_X4_fewestSent_36, e_X4_fewestSent_37, e_X4_fewestSent_40, e_X4_fewestSent_43, e_X4_fewestSent_44, hI, c6, es, h1, if_true]
    rfl
  | succ k ih =>
    intro c o x ho h
    have h1 : ¬ nI (2 ^ N) ≤ nI c := nI_ge (by omega) (by omega)
    have hf := k_X4_isFewer (d := d + 3) (m := wrI m 208 x) (show c < 64 by omega) (fun b hb => by have := ho b hb; omega)
    rw [fwL_s]
    by_cases q : fwr c o = true
    · obtain ⟨x1, e1⟩ := k_X4_ownerBySent (d := d) (m := m) (x := x) (n := n) (s := c) hn (by omega) g
      obtain ⟨x2, e2⟩ := ih (c + 1) (flS y n c o) x1 (flS_lt c o (by omega) ho) (by omega)
      refine ⟨x2, ?_⟩
      rw [← e2, e_X4_fewestSent_4]
      unfold flS
      by_cases z : ovS y c n = -1
      · simp only [e_X4_fewestSent_0, e_X4_fewestSent_1, e_X4_fewestSent_2, e_X4_fewestSent_3, e_X4_fewestSent_5, e_X4_fewestSent_6, e_X4_fewestSent_7, e_X4_fewestSent_10, e_X4_fewestSent_13, e_X4_fewestSent_14, e_X4_fewestSent_17, e_X4_fewestSent_18, e_X4_fewestSent_19, e_X4_fewestSent_22, e_X4_fewestSent_25, e_X4_fewestSent_26, e_X4_fewestSent_27, e_X4_fewestSent_28, e_X4_fewestSent_31, e_X4_fewestSent_32, e_X4_fewestSent_35, e_X4_fewestSent_36, e_X4_fewestSent_37, e_X4_fewestSent_40, e_X4_fewestSent_43, e_X4_fewestSent_44, hI, c6, es, h1, if_false, hf, jm_bd_v, if_pos q, bv1, e1, z, if_true, not_true_eq_false, and_false, nI_add]
      · simp only [e_X4_fewestSent_0, e_X4_fewestSent_1, e_X4_fewestSent_2, e_X4_fewestSent_3, e_X4_fewestSent_5, e_X4_fewestSent_6, e_X4_fewestSent_7, e_X4_fewestSent_10, e_X4_fewestSent_13, e_X4_fewestSent_14, e_X4_fewestSent_17, e_X4_fewestSent_18, e_X4_fewestSent_19, e_X4_fewestSent_22, e_X4_fewestSent_25, e_X4_fewestSent_26, e_X4_fewestSent_27, e_X4_fewestSent_28, e_X4_fewestSent_31, e_X4_fewestSent_32, e_X4_fewestSent_35, e_X4_fewestSent_36, e_X4_fewestSent_37, e_X4_fewestSent_40, e_X4_fewestSent_43, e_X4_fewestSent_44, hI, c6, es, h1, if_false, hf, jm_bd_v, if_pos q, bv1, e1, z, if_true, not_false_eq_true, and_true, nI_add, q]
        rfl
    · obtain ⟨x2, e2⟩ := ih (c + 1) o x ho (by omega)
      have e3 : flS y n c o = o := if_neg (fun h => q h.1)
      refine ⟨x2, ?_⟩
      rw [e3, ← e2, e_X4_fewestSent_4]
      simp only [e_X4_fewestSent_0, e_X4_fewestSent_1, e_X4_fewestSent_2, e_X4_fewestSent_3, e_X4_fewestSent_5, e_X4_fewestSent_6, e_X4_fewestSent_7, e_X4_fewestSent_10, e_X4_fewestSent_13, e_X4_fewestSent_14, e_X4_fewestSent_17, e_X4_fewestSent_18, e_X4_fewestSent_19, e_X4_fewestSent_22, e_X4_fewestSent_25, e_X4_fewestSent_26, e_X4_fewestSent_27, e_X4_fewestSent_28, e_X4_fewestSent_31, e_X4_fewestSent_32, e_X4_fewestSent_35, e_X4_fewestSent_36, e_X4_fewestSent_37, e_X4_fewestSent_40, e_X4_fewestSent_43, e_X4_fewestSent_44, hI, c6, es, h1, if_false, hf, jm_bd_v, if_neg q, if_true, nI_add]
theorem noV_lt {o : Option Nat} {B : Nat} (h : ∀ b, o = some b → b < B) (hB : B ≤ 64) : (noV o < nI 0) = (o = none) := by
  cases o with
  | none => exact eq_true (show noV none < nI 0 by decide) |>.trans (eq_true rfl).symm
  | some b =>
    have hb := h b rfl
    exact (eq_false (nI_nlt0 (show b < 2 ^ 31 by omega))).trans (eq_false (by intro h; cases h)).symm
theorem lp_X7_fleet {C N n : Nat} {w : Int32} {m x : Nat → Nat → Int32} {z : Nat → Int32} (hn : n < 1000) (g : GN C N x z) : ∀ (k c : Nat) (o : Option Nat) (y : Nat → Int32), (∀ i, i < 44 → y i = z i) → (∀ b, o = some b → b < 2 ^ N) → c + k = 2 ^ N → ∃ y', jm_R 12 md_X7_fleet 42 [.ref 217, .int (nI n), .int w, .int (noV o), .int (nI c)] [] (jm_mk (wrA (wrA m 226 z) 221 y)) = jm_R 12 md_X7_fleet 101 [.ref 217, .int (nI n), .int w, .int (noV (fwL (flS z n) k c o)), .int (nI (2 ^ N))] [] (jm_mk (wrA (wrA m 226 z) 221 y')) ∧ ∀ i, i < 44 → y' i = z i := by
  have hN6 := g.N6
  have hp := pow_le hN6
  have es := shl_1 N hN6
  intro k
  induction k with
  | zero =>
    intro c o y hy ho h
    have h1 : nI (2 ^ N) ≤ nI c := nI_le (by omega) (by omega)
    have m4 : y 4 = nI N := by obtain ⟨o, hv, hr⟩ := g.congr hy; exact hv.2.1.1
    refine ⟨y, ?_, hy⟩
    rw [e_X7_fleet_42]
    simp only [e_X7_fleet_0, e_X7_fleet_1, e_X7_fleet_4, e_X7_fleet_7, e_X7_fleet_9, e_X7_fleet_10, e_X7_fleet_11, e_X7_fleet_12, e_X7_fleet_13, e_X7_fleet_16, e_X7_fleet_19, e_X7_fleet_22, e_X7_fleet_23, e_X7_fleet_26, e_X7_fleet_29, e_X7_fleet_31, e_X7_fleet_32, e_X7_fleet_33, e_X7_fleet_36, e_X7_fleet_38, e_X7_fleet_39, e_X7_fleet_40, e_X7_fleet_44, e_X7_fleet_45, e_X7_fleet_46, e_X7_fleet_49, e_X7_fleet_50, e_X7_fleet_51, e_X7_fleet_52, e_X7_fleet_55, e_X7_fleet_56, e_X7_fleet_59, e_X7_fleet_61, e_X7_fleet_64, e_X7_fleet_65, e_X7_fleet_68, e_X7_fleet_71, e_X7_fleet_72, e_X7_fleet_75, e_X7_fleet_77, e_X7_fleet_79, e_X7_fleet_80, e_X7_fleet_81, e_X7_fleet_82, e_X7_fleet_85, e_X7_fleet_88, e_X7_fleet_90, e_X7_fleet_93, e_X7_fleet_94, e_X7_fleet_95, e_X7_fleet_98, e_X7_fleet_102, e_X7_fleet_105, e_X7_fleet_106, e_X7_fleet_107, e_X7_fleet_110, e_X7_fleet_111, e_X7_fleet_114, e_X7_fleet_115, e_X7_fleet_118, show (4 : Nat) < 44 by decide, wrA_at, m4, es, h1, if_true]
    rw [show c = 2 ^ N by omega]
    rfl
  | succ k ih =>
    intro c o y hy ho h
    have h1 : ¬ nI (2 ^ N) ≤ nI c := nI_ge (by omega) (by omega)
    have gy := g.congr hy
    have m4 : y 4 = nI N := by obtain ⟨o, hv, hr⟩ := g.congr hy; exact hv.2.1.1
    have hs : c < 2 ^ N := by omega
    have h2 := k_X7_ownerBy (d := 6) (m := m) (z := z) (y := upd y 6 (nI c)) (n := n) hn (gy.snt hs).gx.y
    have h3 : ohN (upd y 6 (nI c)) n 7 = ovS z c n := gy.ovs g hs n
    have hlt : (ovS z c n < nI 0) = (ovS z c n = -1) := ((g.snt hs).steps n).own_lt
    rw [h3] at h2
    rw [fwL_s]
    have hnl := noV_lt ho hp
    by_cases q : fwr c o = true
    · obtain ⟨y', e, e'⟩ := ih (c + 1) (flS z n c o) (cp44 z (ohN (upd y 6 (nI c)) n)) (fun i hi => cp44_lt hi) (flS_lt c o hs ho) (by omega)
      refine ⟨y', ?_, e'⟩
      rw [← e, e_X7_fleet_42]
      have hgo : jm_R 12 md_X7_fleet 71 [.ref 217, .int (nI n), .int w, .int (noV o), .int (nI c)] [] (jm_mk (wrA (wrA m 226 z) 221 y)) = jm_R 12 md_X7_fleet 42 [.ref 217, .int (nI n), .int w, .int (noV (flS z n c o)), .int (nI (c + 1))] [] (jm_mk (wrA (wrA m 226 z) 221 (cp44 z (ohN (upd y 6 (nI c)) n)))) := by
        unfold flS
        by_cases u : ovS z c n = -1
        · have u' : ovS z c n < nI 0 := by rw [hlt]; exact u
          simp only [e_X7_fleet_0, e_X7_fleet_1, e_X7_fleet_4, e_X7_fleet_7, e_X7_fleet_9, e_X7_fleet_10, e_X7_fleet_11, e_X7_fleet_12, e_X7_fleet_13, e_X7_fleet_16, e_X7_fleet_19, e_X7_fleet_22, e_X7_fleet_23, e_X7_fleet_26, e_X7_fleet_29, e_X7_fleet_31, e_X7_fleet_32, e_X7_fleet_33, e_X7_fleet_36, e_X7_fleet_38, e_X7_fleet_39, e_X7_fleet_40, e_X7_fleet_44, e_X7_fleet_45, e_X7_fleet_46, e_X7_fleet_49, e_X7_fleet_50, e_X7_fleet_51, e_X7_fleet_52, e_X7_fleet_55, e_X7_fleet_56, e_X7_fleet_59, e_X7_fleet_61, e_X7_fleet_64, e_X7_fleet_65, e_X7_fleet_68, e_X7_fleet_71, e_X7_fleet_72, e_X7_fleet_75, e_X7_fleet_77, e_X7_fleet_79, e_X7_fleet_80, e_X7_fleet_81, e_X7_fleet_82, e_X7_fleet_85, e_X7_fleet_88, e_X7_fleet_90, e_X7_fleet_93, e_X7_fleet_94, e_X7_fleet_95, e_X7_fleet_98, e_X7_fleet_101, e_X7_fleet_102, e_X7_fleet_105, e_X7_fleet_106, e_X7_fleet_107, e_X7_fleet_110, e_X7_fleet_111, e_X7_fleet_114, e_X7_fleet_115, e_X7_fleet_118, show (6 : Nat) < 44 by decide, wrA_up, h2, jm_bd_v, if_pos u', nI_add]
          rw [if_neg (fun h => h.2 u)]
        · have u' : ¬ ovS z c n < nI 0 := by rw [hlt]; exact u
          simp only [e_X7_fleet_0, e_X7_fleet_1, e_X7_fleet_4, e_X7_fleet_7, e_X7_fleet_9, e_X7_fleet_10, e_X7_fleet_11, e_X7_fleet_12, e_X7_fleet_13, e_X7_fleet_16, e_X7_fleet_19, e_X7_fleet_22, e_X7_fleet_23, e_X7_fleet_26, e_X7_fleet_29, e_X7_fleet_31, e_X7_fleet_32, e_X7_fleet_33, e_X7_fleet_36, e_X7_fleet_38, e_X7_fleet_39, e_X7_fleet_40, e_X7_fleet_44, e_X7_fleet_45, e_X7_fleet_46, e_X7_fleet_49, e_X7_fleet_50, e_X7_fleet_51, e_X7_fleet_52, e_X7_fleet_55, e_X7_fleet_56, e_X7_fleet_59, e_X7_fleet_61, e_X7_fleet_64, e_X7_fleet_65, e_X7_fleet_68, e_X7_fleet_71, e_X7_fleet_72, e_X7_fleet_75, e_X7_fleet_77, e_X7_fleet_79, e_X7_fleet_80, e_X7_fleet_81, e_X7_fleet_82, e_X7_fleet_85, e_X7_fleet_88, e_X7_fleet_90, e_X7_fleet_93, e_X7_fleet_94, e_X7_fleet_95, e_X7_fleet_98, e_X7_fleet_101, e_X7_fleet_102, e_X7_fleet_105, e_X7_fleet_106, e_X7_fleet_107, e_X7_fleet_110, e_X7_fleet_111, e_X7_fleet_114, e_X7_fleet_115, e_X7_fleet_118, show (6 : Nat) < 44 by decide, wrA_up, h2, jm_bd_v, if_neg u', nI_add]
          rw [if_pos ⟨q, u⟩]
          rfl
      cases o with
      | none =>
        have hl : noV none < nI 0 := by decide
        simp only [e_X7_fleet_0, e_X7_fleet_1, e_X7_fleet_4, e_X7_fleet_7, e_X7_fleet_9, e_X7_fleet_10, e_X7_fleet_11, e_X7_fleet_12, e_X7_fleet_13, e_X7_fleet_16, e_X7_fleet_19, e_X7_fleet_22, e_X7_fleet_23, e_X7_fleet_26, e_X7_fleet_29, e_X7_fleet_31, e_X7_fleet_32, e_X7_fleet_33, e_X7_fleet_36, e_X7_fleet_38, e_X7_fleet_39, e_X7_fleet_40, e_X7_fleet_44, e_X7_fleet_45, e_X7_fleet_46, e_X7_fleet_49, e_X7_fleet_50, e_X7_fleet_51, e_X7_fleet_52, e_X7_fleet_55, e_X7_fleet_56, e_X7_fleet_59, e_X7_fleet_61, e_X7_fleet_64, e_X7_fleet_65, e_X7_fleet_68, e_X7_fleet_72, e_X7_fleet_75, e_X7_fleet_77, e_X7_fleet_79, e_X7_fleet_80, e_X7_fleet_81, e_X7_fleet_82, e_X7_fleet_85, e_X7_fleet_88, e_X7_fleet_90, e_X7_fleet_93, e_X7_fleet_94, e_X7_fleet_95, e_X7_fleet_98, e_X7_fleet_101, e_X7_fleet_102, e_X7_fleet_105, e_X7_fleet_106, e_X7_fleet_107, e_X7_fleet_110, e_X7_fleet_111, e_X7_fleet_114, e_X7_fleet_115, e_X7_fleet_118, show (4 : Nat) < 44 by decide, wrA_at, m4, es, h1, if_false, hl, if_true, hgo]
      | some b =>
        have hb := ho b rfl
        have hl : ¬ noV (some b) < nI 0 := nI_nlt0 (by omega)
        have hpc : ¬ nI (pcN b) ≤ nI (pcN c) := nI_ge (by simpa [fwr] using q) (by have := pcN_le (t := b); omega)
        have e1 : noV (some b) = nI b := rfl
        have o1 := k_X7_ones (d := 11) (t := c) (M := jm_mk (wrA (wrA m 226 z) 221 y)) (by omega)
        have o2 := k_X7_ones (d := 11) (t := b) (M := jm_mk (wrA (wrA m 226 z) 221 y)) (by omega)
        rw [e1] at hl hgo ⊢
        simp only [e_X7_fleet_0, e_X7_fleet_1, e_X7_fleet_4, e_X7_fleet_7, e_X7_fleet_9, e_X7_fleet_10, e_X7_fleet_11, e_X7_fleet_12, e_X7_fleet_13, e_X7_fleet_16, e_X7_fleet_19, e_X7_fleet_22, e_X7_fleet_23, e_X7_fleet_26, e_X7_fleet_29, e_X7_fleet_31, e_X7_fleet_32, e_X7_fleet_33, e_X7_fleet_36, e_X7_fleet_38, e_X7_fleet_39, e_X7_fleet_40, e_X7_fleet_44, e_X7_fleet_45, e_X7_fleet_46, e_X7_fleet_49, e_X7_fleet_50, e_X7_fleet_51, e_X7_fleet_52, e_X7_fleet_55, e_X7_fleet_56, e_X7_fleet_59, e_X7_fleet_61, e_X7_fleet_64, e_X7_fleet_65, e_X7_fleet_68, e_X7_fleet_72, e_X7_fleet_75, e_X7_fleet_77, e_X7_fleet_79, e_X7_fleet_80, e_X7_fleet_81, e_X7_fleet_82, e_X7_fleet_85, e_X7_fleet_88, e_X7_fleet_90, e_X7_fleet_93, e_X7_fleet_94, e_X7_fleet_95, e_X7_fleet_98, e_X7_fleet_101, e_X7_fleet_102, e_X7_fleet_105, e_X7_fleet_106, e_X7_fleet_107, e_X7_fleet_110, e_X7_fleet_111, e_X7_fleet_114, e_X7_fleet_115, e_X7_fleet_118, show (4 : Nat) < 44 by decide, wrA_at, m4, es, h1, if_false, hl, o1, o2, jm_bd_v, hpc, hgo]
    · obtain ⟨y', e, e'⟩ := ih (c + 1) o y hy ho (by omega)
      have e3 : flS z n c o = o := if_neg (fun h => q h.1)
      refine ⟨y', ?_, e'⟩
      rw [e3, ← e, e_X7_fleet_42]
      cases o with
      | none => exact absurd rfl q
      | some b =>
        have hb := ho b rfl
        have hl : ¬ noV (some b) < nI 0 := nI_nlt0 (by omega)
        have hpc : nI (pcN b) ≤ nI (pcN c) := nI_le (by have : ¬ pcN c < pcN b := by simpa [fwr] using q
                                                        omega) (by have := pcN_le (t := c); omega)
        have e1 : noV (some b) = nI b := rfl
        have o1 := k_X7_ones (d := 11) (t := c) (M := jm_mk (wrA (wrA m 226 z) 221 y)) (by omega)
        have o2 := k_X7_ones (d := 11) (t := b) (M := jm_mk (wrA (wrA m 226 z) 221 y)) (by omega)
        rw [e1] at hl ⊢
        simp only [e_X7_fleet_0, e_X7_fleet_1, e_X7_fleet_4, e_X7_fleet_7, e_X7_fleet_9, e_X7_fleet_10, e_X7_fleet_11, e_X7_fleet_12, e_X7_fleet_13, e_X7_fleet_16, e_X7_fleet_19, e_X7_fleet_22, e_X7_fleet_23, e_X7_fleet_26, e_X7_fleet_29, e_X7_fleet_31, e_X7_fleet_32, e_X7_fleet_33, e_X7_fleet_36, e_X7_fleet_38, e_X7_fleet_39, e_X7_fleet_40, e_X7_fleet_44, e_X7_fleet_45, e_X7_fleet_46, e_X7_fleet_49, e_X7_fleet_50, e_X7_fleet_51, e_X7_fleet_52, e_X7_fleet_55, e_X7_fleet_56, e_X7_fleet_59, e_X7_fleet_61, e_X7_fleet_64, e_X7_fleet_65, e_X7_fleet_68, e_X7_fleet_72, e_X7_fleet_75, e_X7_fleet_77, e_X7_fleet_79, e_X7_fleet_80, e_X7_fleet_81, e_X7_fleet_82, e_X7_fleet_85, e_X7_fleet_88, e_X7_fleet_90, e_X7_fleet_93, e_X7_fleet_94, e_X7_fleet_95, e_X7_fleet_98, e_X7_fleet_101, e_X7_fleet_102, e_X7_fleet_105, e_X7_fleet_106, e_X7_fleet_107, e_X7_fleet_110, e_X7_fleet_111, e_X7_fleet_114, e_X7_fleet_115, e_X7_fleet_118, show (4 : Nat) < 44 by decide, wrA_at, m4, es, h1, if_false, hl, o1, o2, jm_bd_v, hpc, if_true, nI_add]
theorem szw {w : Int32} (hw : ¬ w < nI 0 ∧ ¬ nI 1 < w) : w = nI 0 ∨ w = nI 1 := by
  obtain ⟨j, -, h, rfl⟩ := rg_of hw (by omega) (by omega)
  rcases (by omega : j = 0 ∨ j = 1) with rfl | rfl
  · exact Or.inl rfl
  · exact Or.inr rfl
theorem api_fleet (n w : Int32) : Api md_X6_fleet md_X7_fleet [.int n, .int w] := by
  refine Api.try (fun m hR => ?_)
  obtain ⟨C, N, hC6, hN6, c6, m4, c5, m3, hcase⟩ := hR.isle
  have hI : jm_ia 200 = true := by decide
  rcases hcase with ⟨q0, q1, q2⟩ | ⟨q0, q2, g⟩
  · subst q0
    refine Api.no (r := .int (-1000002)) ?_ (fun m' h7 h1 => ?_)
    · show jm_R 12 md_X6_fleet 0 [.ref 0, .int n, .int w] [] _ = _
      simp only [e_X6_fleet_0, e_X6_fleet_1, e_X6_fleet_4, e_X6_fleet_7, e_X6_fleet_10, e_X6_fleet_12, e_X6_fleet_13, e_X6_fleet_14, e_X6_fleet_15, e_X6_fleet_17, e_X6_fleet_20, e_X6_fleet_23, e_X6_fleet_24, e_X6_fleet_25, e_X6_fleet_26, e_X6_fleet_29, e_X6_fleet_32, e_X6_fleet_34, e_X6_fleet_35, e_X6_fleet_36, e_X6_fleet_39, e_X6_fleet_40, e_X6_fleet_43, e_X6_fleet_44, e_X6_fleet_47, k_X2_hasBoat hI, k_X2_stands hI, k_X2_hasCell hI, c6, c5, k_X6_within, jm_bd_v, jm_bd_0, bv1, if_false, if_true, not_false_eq_true, not_true_eq_false, nI_le (Nat.le_refl 0) (show 0 < 2 ^ 31 by decide)]
    · show jm_R 12 md_X7_fleet 0 [.ref 217, .int n, .int w, .null, .null] [] _ = _
      simp only [e_X7_fleet_0, e_X7_fleet_1, e_X7_fleet_4, e_X7_fleet_7, e_X7_fleet_9, e_X7_fleet_10, e_X7_fleet_11, e_X7_fleet_12, e_X7_fleet_13, e_X7_fleet_16, e_X7_fleet_19, e_X7_fleet_22, e_X7_fleet_23, e_X7_fleet_26, e_X7_fleet_29, e_X7_fleet_31, e_X7_fleet_32, e_X7_fleet_33, e_X7_fleet_36, e_X7_fleet_38, e_X7_fleet_39, e_X7_fleet_40, e_X7_fleet_44, e_X7_fleet_45, e_X7_fleet_46, e_X7_fleet_49, e_X7_fleet_50, e_X7_fleet_51, e_X7_fleet_52, e_X7_fleet_55, e_X7_fleet_56, e_X7_fleet_59, e_X7_fleet_61, e_X7_fleet_64, e_X7_fleet_65, e_X7_fleet_68, e_X7_fleet_71, e_X7_fleet_72, e_X7_fleet_75, e_X7_fleet_77, e_X7_fleet_79, e_X7_fleet_80, e_X7_fleet_81, e_X7_fleet_82, e_X7_fleet_85, e_X7_fleet_88, e_X7_fleet_90, e_X7_fleet_93, e_X7_fleet_94, e_X7_fleet_95, e_X7_fleet_98, e_X7_fleet_101, e_X7_fleet_102, e_X7_fleet_105, e_X7_fleet_106, e_X7_fleet_107, e_X7_fleet_110, e_X7_fleet_111, e_X7_fleet_114, e_X7_fleet_115, e_X7_fleet_118, h7, q2, k_X7_isBoat m4 hN6, k_X7_isCell m3 hC6, in_0_60, in_1_60, in_1_40, in_0_1, in_1_24, in_0_3, in_1_9, in_0_2, in_1_12, in_0_10, in_1_999999, in_0_5, in_0_255, k_X7_isRow, k_X7_isWhat, jm_bd_v, jm_bd_0, bv1, if_false, if_true, not_false_eq_true, not_true_eq_false]
  · have hst := stN q0 hN6
    have hth := thereOf q2
    by_cases hn : ¬ n < nI 1 ∧ ¬ nI 40 < n
    · by_cases hw : ¬ w < nI 0 ∧ ¬ nI 1 < w
      · obtain ⟨k, -, hk, rfl⟩ := rg_of hn (by omega) (by omega)
        obtain ⟨x1, e1⟩ := lp_X4_fewestSent (d := 6) (m := m) (n := k) (by omega) g (2 ^ N) 0 none (vwI m 208) (fun b hb => by cases hb) (by omega)
        rw [wrI_self] at e1
        have hp := pow_le hN6
        have hlt := fwL_lt (B := 2 ^ N) (st := flS (m 221) k) flS_lt (k := 2 ^ N) (c := 0) (o := none) (by omega) (fun b hb => by cases hb)
        have hc : jm_K 11 md_X4_fewestSent [.ref 207, .int (nI k)] (jm_mk m) = some (some (.int (ovI (fwL (flS (m 221) k) (2 ^ N) 0 none))), jm_mk (wrI m 208 x1)) := by
          show jm_R 11 md_X4_fewestSent 0 [.ref 207, .int (nI k), .null, .null] [] _ = _
          simp only [e_X4_fewestSent_0, e_X4_fewestSent_1, e_X4_fewestSent_2, e_X4_fewestSent_3, e_X4_fewestSent_5, e_X4_fewestSent_6, e_X4_fewestSent_7, e_X4_fewestSent_10, e_X4_fewestSent_13, e_X4_fewestSent_14, e_X4_fewestSent_17, e_X4_fewestSent_18, e_X4_fewestSent_19, e_X4_fewestSent_22, e_X4_fewestSent_25, e_X4_fewestSent_26, e_X4_fewestSent_27, e_X4_fewestSent_28, e_X4_fewestSent_31, e_X4_fewestSent_32, e_X4_fewestSent_35, e_X4_fewestSent_36, e_X4_fewestSent_37, e_X4_fewestSent_40, e_X4_fewestSent_43, e_X4_fewestSent_44]
          exact e1
        have gz : GN C N (vwI m 200) (cp44 (m 221) (m 226)) := g.congr (fun i hi => cp44_lt hi)
        have hz := k_X6_sizeOrSet (d := 10) (o := fwL (flS (m 221) k) (2 ^ N) 0 none) (w := w) (m := wrI m 208 x1) (fun b hb => by have := hlt b hb; omega)
        refine ⟨.int (szV (fwL (flS (m 221) k) (2 ^ N) 0 none) w), x1, ?_, fun m1 hm => ?_⟩
        · show jm_R 12 md_X6_fleet 0 [.ref 0, .int (nI k), .int w] [] _ = _
          simp only [e_X6_fleet_0, e_X6_fleet_1, e_X6_fleet_4, e_X6_fleet_7, e_X6_fleet_10, e_X6_fleet_12, e_X6_fleet_13, e_X6_fleet_14, e_X6_fleet_15, e_X6_fleet_17, e_X6_fleet_20, e_X6_fleet_23, e_X6_fleet_24, e_X6_fleet_25, e_X6_fleet_26, e_X6_fleet_29, e_X6_fleet_32, e_X6_fleet_34, e_X6_fleet_35, e_X6_fleet_36, e_X6_fleet_39, e_X6_fleet_40, e_X6_fleet_43, e_X6_fleet_44, e_X6_fleet_47, k_X2_hasBoat hI, k_X2_stands hI, k_X2_hasCell hI, c6, c5, k_X6_within, jm_bd_v, jm_bd_0, bv1, if_false, if_true, not_false_eq_true, not_true_eq_false, hst, if_pos hn, if_pos hw, hc, hz]
        · obtain ⟨y2, e2, e3⟩ := lp_X7_fleet (w := w) (m := m1) (n := k) (by omega) gz (2 ^ N) 0 none (m 221) (fun i hi => (cp44_lt hi).symm) (fun b hb => by cases hb) (by omega)
          refine ⟨cp44 (m 221) (m 226), y2, ?_, fun i hi => by rw [e3 i hi, cp44_lt hi]⟩
          have e5 : wrA (wrA m1 226 (m 226)) 221 (m 221) 217 4 = m 217 4 := by rw [wrA_ne (by decide), wrA_ne (by decide), hm 217 (by decide)]
          have e6 : fwL (flS (cp44 (m 221) (m 226)) k) (2 ^ N) 0 none = fwL (flS (m 221) k) (2 ^ N) 0 none := fwL_congr (fun c h1 h2 o => by unfold flS; rw [gz.ovs g (by omega) k])
          rw [e6] at e2
          show jm_R 12 md_X7_fleet 0 [.ref 217, .int (nI k), .int w, .null, .null] [] _ = _
          simp only [e_X7_fleet_0, e_X7_fleet_1, e_X7_fleet_4, e_X7_fleet_7, e_X7_fleet_9, e_X7_fleet_10, e_X7_fleet_11, e_X7_fleet_12, e_X7_fleet_13, e_X7_fleet_16, e_X7_fleet_19, e_X7_fleet_22, e_X7_fleet_23, e_X7_fleet_26, e_X7_fleet_29, e_X7_fleet_31, e_X7_fleet_32, e_X7_fleet_33, e_X7_fleet_36, e_X7_fleet_38, e_X7_fleet_39, e_X7_fleet_40, e_X7_fleet_44, e_X7_fleet_45, e_X7_fleet_46, e_X7_fleet_49, e_X7_fleet_50, e_X7_fleet_51, e_X7_fleet_52, e_X7_fleet_55, e_X7_fleet_56, e_X7_fleet_59, e_X7_fleet_61, e_X7_fleet_64, e_X7_fleet_65, e_X7_fleet_68, e_X7_fleet_71, e_X7_fleet_72, e_X7_fleet_75, e_X7_fleet_77, e_X7_fleet_79, e_X7_fleet_80, e_X7_fleet_81, e_X7_fleet_82, e_X7_fleet_85, e_X7_fleet_88, e_X7_fleet_90, e_X7_fleet_93, e_X7_fleet_94, e_X7_fleet_95, e_X7_fleet_98, e_X7_fleet_101, e_X7_fleet_102, e_X7_fleet_105, e_X7_fleet_106, e_X7_fleet_107, e_X7_fleet_110, e_X7_fleet_111, e_X7_fleet_114, e_X7_fleet_115, e_X7_fleet_118, k_X7_isBoat m4 hN6, k_X7_isCell m3 hC6, in_0_60, in_1_60, in_1_40, in_0_1, in_1_24, in_0_3, in_1_9, in_0_2, in_1_12, in_0_10, in_1_999999, in_0_5, in_0_255, k_X7_isRow, k_X7_isWhat, jm_bd_v, jm_bd_0, bv1, if_false, if_true, not_false_eq_true, not_true_eq_false, e5, hth, if_pos hn, if_pos hw, k_X7_putAside]
          refine e2.trans ?_
          cases hf : fwL (flS (m 221) k) (2 ^ N) 0 none with
          | none =>
            have hl : noV none < nI 0 := by decide
            simp only [e_X7_fleet_0, e_X7_fleet_1, e_X7_fleet_4, e_X7_fleet_7, e_X7_fleet_9, e_X7_fleet_10, e_X7_fleet_11, e_X7_fleet_12, e_X7_fleet_13, e_X7_fleet_16, e_X7_fleet_19, e_X7_fleet_22, e_X7_fleet_23, e_X7_fleet_26, e_X7_fleet_29, e_X7_fleet_31, e_X7_fleet_32, e_X7_fleet_33, e_X7_fleet_36, e_X7_fleet_38, e_X7_fleet_39, e_X7_fleet_40, e_X7_fleet_44, e_X7_fleet_45, e_X7_fleet_46, e_X7_fleet_49, e_X7_fleet_50, e_X7_fleet_51, e_X7_fleet_52, e_X7_fleet_55, e_X7_fleet_56, e_X7_fleet_59, e_X7_fleet_61, e_X7_fleet_64, e_X7_fleet_65, e_X7_fleet_68, e_X7_fleet_71, e_X7_fleet_72, e_X7_fleet_75, e_X7_fleet_77, e_X7_fleet_79, e_X7_fleet_80, e_X7_fleet_81, e_X7_fleet_82, e_X7_fleet_85, e_X7_fleet_88, e_X7_fleet_90, e_X7_fleet_93, e_X7_fleet_94, e_X7_fleet_95, e_X7_fleet_98, e_X7_fleet_101, e_X7_fleet_102, e_X7_fleet_105, e_X7_fleet_106, e_X7_fleet_107, e_X7_fleet_110, e_X7_fleet_111, e_X7_fleet_114, e_X7_fleet_115, e_X7_fleet_118, hl, if_true]
            rfl
          | some b =>
            have hb := hlt b hf
            have hl : ¬ nI b < nI 0 := nI_nlt0 (by omega)
            have e1 : noV (some b) = nI b := rfl
            have o2 := k_X7_ones (d := 11) (t := b) (M := jm_mk (wrA (wrA m1 226 (cp44 (m 221) (m 226))) 221 y2)) (by omega)
            rw [e1]
            rcases szw hw with rfl | rfl
            · simp only [e_X7_fleet_0, e_X7_fleet_1, e_X7_fleet_4, e_X7_fleet_7, e_X7_fleet_9, e_X7_fleet_10, e_X7_fleet_11, e_X7_fleet_12, e_X7_fleet_13, e_X7_fleet_16, e_X7_fleet_19, e_X7_fleet_22, e_X7_fleet_23, e_X7_fleet_26, e_X7_fleet_29, e_X7_fleet_31, e_X7_fleet_32, e_X7_fleet_33, e_X7_fleet_36, e_X7_fleet_38, e_X7_fleet_39, e_X7_fleet_40, e_X7_fleet_44, e_X7_fleet_45, e_X7_fleet_46, e_X7_fleet_49, e_X7_fleet_50, e_X7_fleet_51, e_X7_fleet_52, e_X7_fleet_55, e_X7_fleet_56, e_X7_fleet_59, e_X7_fleet_61, e_X7_fleet_64, e_X7_fleet_65, e_X7_fleet_68, e_X7_fleet_71, e_X7_fleet_72, e_X7_fleet_75, e_X7_fleet_77, e_X7_fleet_79, e_X7_fleet_80, e_X7_fleet_81, e_X7_fleet_82, e_X7_fleet_85, e_X7_fleet_88, e_X7_fleet_90, e_X7_fleet_93, e_X7_fleet_94, e_X7_fleet_95, e_X7_fleet_98, e_X7_fleet_101, e_X7_fleet_102, e_X7_fleet_105, e_X7_fleet_106, e_X7_fleet_107, e_X7_fleet_110, e_X7_fleet_111, e_X7_fleet_114, e_X7_fleet_115, e_X7_fleet_118, hl, if_false, show ¬ nI 0 = nI 1 by decide, not_false_eq_true, if_true, o2, jm_bd_v, szV]
            · simp only [e_X7_fleet_0, e_X7_fleet_1, e_X7_fleet_4, e_X7_fleet_7, e_X7_fleet_9, e_X7_fleet_10, e_X7_fleet_11, e_X7_fleet_12, e_X7_fleet_13, e_X7_fleet_16, e_X7_fleet_19, e_X7_fleet_22, e_X7_fleet_23, e_X7_fleet_26, e_X7_fleet_29, e_X7_fleet_31, e_X7_fleet_32, e_X7_fleet_33, e_X7_fleet_36, e_X7_fleet_38, e_X7_fleet_39, e_X7_fleet_40, e_X7_fleet_44, e_X7_fleet_45, e_X7_fleet_46, e_X7_fleet_49, e_X7_fleet_50, e_X7_fleet_51, e_X7_fleet_52, e_X7_fleet_55, e_X7_fleet_56, e_X7_fleet_59, e_X7_fleet_61, e_X7_fleet_64, e_X7_fleet_65, e_X7_fleet_68, e_X7_fleet_71, e_X7_fleet_72, e_X7_fleet_75, e_X7_fleet_77, e_X7_fleet_79, e_X7_fleet_80, e_X7_fleet_81, e_X7_fleet_82, e_X7_fleet_85, e_X7_fleet_88, e_X7_fleet_90, e_X7_fleet_93, e_X7_fleet_94, e_X7_fleet_95, e_X7_fleet_98, e_X7_fleet_101, e_X7_fleet_102, e_X7_fleet_105, e_X7_fleet_106, e_X7_fleet_107, e_X7_fleet_110, e_X7_fleet_111, e_X7_fleet_114, e_X7_fleet_115, e_X7_fleet_118, hl, if_false, bv1, not_true_eq_false, szV]
      · refine Api.no (r := .int (-1000001)) ?_ (fun m' h7 h1 => ?_)
        · show jm_R 12 md_X6_fleet 0 [.ref 0, .int n, .int w] [] _ = _
          simp only [e_X6_fleet_0, e_X6_fleet_1, e_X6_fleet_4, e_X6_fleet_7, e_X6_fleet_10, e_X6_fleet_12, e_X6_fleet_13, e_X6_fleet_14, e_X6_fleet_15, e_X6_fleet_17, e_X6_fleet_20, e_X6_fleet_23, e_X6_fleet_24, e_X6_fleet_25, e_X6_fleet_26, e_X6_fleet_29, e_X6_fleet_32, e_X6_fleet_34, e_X6_fleet_35, e_X6_fleet_36, e_X6_fleet_39, e_X6_fleet_40, e_X6_fleet_43, e_X6_fleet_44, e_X6_fleet_47, k_X2_hasBoat hI, k_X2_stands hI, k_X2_hasCell hI, c6, c5, k_X6_within, jm_bd_v, jm_bd_0, bv1, if_false, if_true, not_false_eq_true, not_true_eq_false, hst, if_pos hn, if_neg hw]
        · show jm_R 12 md_X7_fleet 0 [.ref 217, .int n, .int w, .null, .null] [] _ = _
          simp only [e_X7_fleet_0, e_X7_fleet_1, e_X7_fleet_4, e_X7_fleet_7, e_X7_fleet_9, e_X7_fleet_10, e_X7_fleet_11, e_X7_fleet_12, e_X7_fleet_13, e_X7_fleet_16, e_X7_fleet_19, e_X7_fleet_22, e_X7_fleet_23, e_X7_fleet_26, e_X7_fleet_29, e_X7_fleet_31, e_X7_fleet_32, e_X7_fleet_33, e_X7_fleet_36, e_X7_fleet_38, e_X7_fleet_39, e_X7_fleet_40, e_X7_fleet_44, e_X7_fleet_45, e_X7_fleet_46, e_X7_fleet_49, e_X7_fleet_50, e_X7_fleet_51, e_X7_fleet_52, e_X7_fleet_55, e_X7_fleet_56, e_X7_fleet_59, e_X7_fleet_61, e_X7_fleet_64, e_X7_fleet_65, e_X7_fleet_68, e_X7_fleet_71, e_X7_fleet_72, e_X7_fleet_75, e_X7_fleet_77, e_X7_fleet_79, e_X7_fleet_80, e_X7_fleet_81, e_X7_fleet_82, e_X7_fleet_85, e_X7_fleet_88, e_X7_fleet_90, e_X7_fleet_93, e_X7_fleet_94, e_X7_fleet_95, e_X7_fleet_98, e_X7_fleet_101, e_X7_fleet_102, e_X7_fleet_105, e_X7_fleet_106, e_X7_fleet_107, e_X7_fleet_110, e_X7_fleet_111, e_X7_fleet_114, e_X7_fleet_115, e_X7_fleet_118, k_X7_isBoat m4 hN6, k_X7_isCell m3 hC6, in_0_60, in_1_60, in_1_40, in_0_1, in_1_24, in_0_3, in_1_9, in_0_2, in_1_12, in_0_10, in_1_999999, in_0_5, in_0_255, k_X7_isRow, k_X7_isWhat, jm_bd_v, jm_bd_0, bv1, if_false, if_true, not_false_eq_true, not_true_eq_false, h7, hth, if_pos hn, if_neg hw]
    · refine Api.no (r := .int (-1000001)) ?_ (fun m' h7 h1 => ?_)
      · show jm_R 12 md_X6_fleet 0 [.ref 0, .int n, .int w] [] _ = _
        simp only [e_X6_fleet_0, e_X6_fleet_1, e_X6_fleet_4, e_X6_fleet_7, e_X6_fleet_10, e_X6_fleet_12, e_X6_fleet_13, e_X6_fleet_14, e_X6_fleet_15, e_X6_fleet_17, e_X6_fleet_20, e_X6_fleet_23, e_X6_fleet_24, e_X6_fleet_25, e_X6_fleet_26, e_X6_fleet_29, e_X6_fleet_32, e_X6_fleet_34, e_X6_fleet_35, e_X6_fleet_36, e_X6_fleet_39, e_X6_fleet_40, e_X6_fleet_43, e_X6_fleet_44, e_X6_fleet_47, k_X2_hasBoat hI, k_X2_stands hI, k_X2_hasCell hI, c6, c5, k_X6_within, jm_bd_v, jm_bd_0, bv1, if_false, if_true, not_false_eq_true, not_true_eq_false, hst, if_neg hn]
      · show jm_R 12 md_X7_fleet 0 [.ref 217, .int n, .int w, .null, .null] [] _ = _
        simp only [e_X7_fleet_0, e_X7_fleet_1, e_X7_fleet_4, e_X7_fleet_7, e_X7_fleet_9, e_X7_fleet_10, e_X7_fleet_11, e_X7_fleet_12, e_X7_fleet_13, e_X7_fleet_16, e_X7_fleet_19, e_X7_fleet_22, e_X7_fleet_23, e_X7_fleet_26, e_X7_fleet_29, e_X7_fleet_31, e_X7_fleet_32, e_X7_fleet_33, e_X7_fleet_36, e_X7_fleet_38, e_X7_fleet_39, e_X7_fleet_40, e_X7_fleet_44, e_X7_fleet_45, e_X7_fleet_46, e_X7_fleet_49, e_X7_fleet_50, e_X7_fleet_51, e_X7_fleet_52, e_X7_fleet_55, e_X7_fleet_56, e_X7_fleet_59, e_X7_fleet_61, e_X7_fleet_64, e_X7_fleet_65, e_X7_fleet_68, e_X7_fleet_71, e_X7_fleet_72, e_X7_fleet_75, e_X7_fleet_77, e_X7_fleet_79, e_X7_fleet_80, e_X7_fleet_81, e_X7_fleet_82, e_X7_fleet_85, e_X7_fleet_88, e_X7_fleet_90, e_X7_fleet_93, e_X7_fleet_94, e_X7_fleet_95, e_X7_fleet_98, e_X7_fleet_101, e_X7_fleet_102, e_X7_fleet_105, e_X7_fleet_106, e_X7_fleet_107, e_X7_fleet_110, e_X7_fleet_111, e_X7_fleet_114, e_X7_fleet_115, e_X7_fleet_118, k_X7_isBoat m4 hN6, k_X7_isCell m3 hC6, in_0_60, in_1_60, in_1_40, in_0_1, in_1_24, in_0_3, in_1_9, in_0_2, in_1_12, in_0_10, in_1_999999, in_0_5, in_0_255, k_X7_isRow, k_X7_isWhat, jm_bd_v, jm_bd_0, bv1, if_false, if_true, not_false_eq_true, not_true_eq_false, h7, hth, if_neg hn]
