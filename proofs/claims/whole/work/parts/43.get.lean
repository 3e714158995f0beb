/-! questions that look at what stands -/
section QS
variable {d a C N : Nat} {m : Nat → Nat → Int32} {y : Nat → Int32}
theorem GN.all {x : Nat → Nat → Int32} (g : GN C N x y) : ∃ o, x 0 5 = nI C ∧ C ≤ 6 ∧ x 0 6 = nI N ∧ N ≤ 6 ∧ ¬ x 0 0 = 0 ∧ nI 1 ≤ x 0 0 ∧ (∀ b, o = some b → b < N) ∧ x 0 4 = ovI o ∧ IV y C N o ∧ IR x y C N := by
  obtain ⟨o, hv, hr⟩ := g
  obtain ⟨a1, a2, a3, a4, a5, a6, a7, a8, a9, a10, a11⟩ := GX.all hv hr
  exact ⟨o, a1, a2, a3, a4, a5, a6, a7, a8, hv, hr⟩
theorem q_water (ha : jm_ia a = true) {k : Int32} (g : GN C N (vwI m a) y) : jm_K d md_X2_waterBehind [.ref a, .int k] (jm_mk m) = some (some (.int (watI (vwI m a) k)), jm_mk m) := by
  obtain ⟨o, a1, a2, a3, a4, a5, a6, a7, a8, hv, hr⟩ := g.all
  have := k_X2_water (d := d) (m := m) (k := k) ha a5 a6
  rwa [wrI_self] at this
theorem q_shows (ha : jm_ia a = true) {k : Int32} (g : GN C N (vwI m a) y) : jm_K (d + 1) md_X2_showsBehind [.ref a, .int k] (jm_mk m) = some (some (.int (if shwL (vwI m a 1) (watI (vwI m a) k) C 0 = true then nI 1 else nI 0)), jm_mk m) := by
  obtain ⟨o, a1, a2, a3, a4, a5, a6, a7, a8, hv, hr⟩ := g.all
  have := k_X2_shows (d := d) (m := m) (k := k) ha a1 a2 a5 a6
  rwa [wrI_self] at this
theorem q_dry (ha : jm_ia a = true) {k : Int32} (g : GN C N (vwI m a) y) : jm_K (d + 1) md_X2_dryBehind [.ref a, .int k] (jm_mk m) = some (some (.int (dryL (vwI m a 1) (watI (vwI m a) k) C 0 (nI 0))), jm_mk m) := by
  obtain ⟨o, a1, a2, a3, a4, a5, a6, a7, a8, hv, hr⟩ := g.all
  have := k_X2_dry (d := d) (m := m) (k := k) ha a1 a2 a5 a6
  rwa [wrI_self] at this
theorem q_way (ha : jm_ia a = true) {j : Nat} {sh : Bool} (hj : j < 6) : jm_K (d + 1) md_X2_wayOf [.ref a, .int (nI j), .int (if sh = true then nI 1 else nI 0)] (jm_mk m) = some (some (.int (wayI (vwI m a) j sh)), jm_mk m) := by
  have := k_X2_wayOf (d := d) (m := m) (x := vwI m a) (sh := sh) ha hj
  rwa [wrI_self] at this
theorem q_mdry {x : Nat → Nat → Int32} {k : Int32} (g : GN C N x (m 221)) : jm_K (d + 1) md_X7_dryIn [.ref 217, .int k] (jm_mk m) = some (some (.int (dryMs (m 221) (watM (m 221) k) C 0 (nI 0))), jm_mk m) := by
  obtain ⟨o, hv, -⟩ := g
  have := k_X7_dryIn (d := d) (m := m) (y := m 221) (h := k) (IV_p hv).1 hv.1.1 hv.1.2.2
  rwa [wrA_self] at this
theorem q_mwater {x : Nat → Nat → Int32} {k : Int32} (g : GN C N x (m 221)) : jm_K d md_X7_waterIn [.ref 217, .int k] (jm_mk m) = some (some (.int (watM (m 221) k)), jm_mk m) := by
  obtain ⟨o, hv, -⟩ := g
  have := k_X7_waterIn (d := d) (m := m) (y := m 221) (h := k) (IV_p hv).1
  rwa [wrA_self] at this
theorem q_mway {x : Nat → Nat → Int32} {j : Nat} (g : GN C N x (m 221)) (hj : j < 6) : jm_K (d + 2) md_X7_wayOf [.ref 217, .int (nI j)] (jm_mk m) = some (some (.int (wayM (m 221) j (dryMs (m 221) (watM (m 221) (m 221 5)) C 0 (nI 0)))), jm_mk m) := by
  obtain ⟨o, hv, -⟩ := g
  have := k_X7_wayOf (d := d) (m := m) (y := m 221) (j := j) (IV_p hv).1 hv.1.1 hv.1.2.2 hj
  rwa [wrA_self] at this
theorem q_mthere {x : Nat → Nat → Int32} (g : GN C N x (m 221)) : jm_K d md_X7_thereSet [.ref 217] (jm_mk m) = some (some (.int (thrL (fun b => m 221 (32 + b)) N 0 (nI 0))), jm_mk m) := by
  obtain ⟨o, hv, -⟩ := g
  have := k_X7_thereSet (d := d) (m := m) (y := m 221) hv.2.1.1 hv.2.1.2.2
  rwa [wrA_self] at this
theorem lp_X2_there (ha : jm_ia a = true) (hN : m a 6 = nI N) (hN6 : N ≤ 6) : ∀ (k c : Nat) (s : Int32), c + k = N → jm_R d md_X2_boatsThere 4 [.ref a, .int s, .int (nI c)] [] (jm_mk m) = some (some (.int (thrL (m (a + 3)) k c s)), jm_mk m) := by
  intro k
  induction k with
  | zero =>
    intro c s h
    have h1 : nI N ≤ nI c := nI_le (by omega) (by omega)
    rw [e_X2_boatsThere_4]
    simp only [e_X2_boatsThere_0, e_X2_boatsThere_1, e_X2_boatsThere_2, e_X2_boatsThere_3, e_X2_boatsThere_5, e_X2_boatsThere_6, e_X2_boatsThere_9, e_X2_boatsThere_12, e_X2_boatsThere_13, e_X2_boatsThere_16, e_X2_boatsThere_17, e_X2_boatsThere_18, e_X2_boatsThere_21, e_X2_boatsThere_22, e_X2_boatsThere_23, e_X2_boatsThere_24, e_X2_boatsThere_25, e_X2_boatsThere_26, e_X2_boatsThere_27, e_X2_boatsThere_30, e_X2_boatsThere_33, e_X2_boatsThere_34, ha, hN, h1, if_true]
    rfl
  | succ k ih =>
    intro c s h
    have h1 : ¬ nI N ≤ nI c := nI_ge (by omega) (by omega)
    have h6 : c < 6 := by omega
    rw [e_X2_boatsThere_4]
    simp only [e_X2_boatsThere_0, e_X2_boatsThere_1, e_X2_boatsThere_2, e_X2_boatsThere_3, e_X2_boatsThere_5, e_X2_boatsThere_6, e_X2_boatsThere_9, e_X2_boatsThere_12, e_X2_boatsThere_13, e_X2_boatsThere_16, e_X2_boatsThere_17, e_X2_boatsThere_18, e_X2_boatsThere_21, e_X2_boatsThere_22, e_X2_boatsThere_23, e_X2_boatsThere_24, e_X2_boatsThere_25, e_X2_boatsThere_26, e_X2_boatsThere_27, e_X2_boatsThere_30, e_X2_boatsThere_33, e_X2_boatsThere_34, ha, hN, h1, if_false, h6, nI_add, ih _ _ (show c + 1 + k = N by omega)]
    rw [thrL_s]
    by_cases q : m (a + 3) c = nI 0
    · simp only [if_pos q, if_neg (fun h : ¬ m (a + 3) c = nI 0 => h q)]
    · simp only [if_neg q, if_pos q]
theorem q_there (ha : jm_ia a = true) (hN : m a 6 = nI N) (hN6 : N ≤ 6) : jm_K d md_X2_boatsThere [.ref a] (jm_mk m) = some (some (.int (thrL (m (a + 3)) N 0 (nI 0))), jm_mk m) := by
  show jm_R d md_X2_boatsThere 0 [.ref a, .null, .null] [] _ = _
  simp only [e_X2_boatsThere_0, e_X2_boatsThere_1, e_X2_boatsThere_2, e_X2_boatsThere_3, e_X2_boatsThere_5, e_X2_boatsThere_6, e_X2_boatsThere_9, e_X2_boatsThere_12, e_X2_boatsThere_13, e_X2_boatsThere_16, e_X2_boatsThere_17, e_X2_boatsThere_18, e_X2_boatsThere_21, e_X2_boatsThere_22, e_X2_boatsThere_23, e_X2_boatsThere_24, e_X2_boatsThere_25, e_X2_boatsThere_26, e_X2_boatsThere_27, e_X2_boatsThere_30, e_X2_boatsThere_33, e_X2_boatsThere_34]
  exact lp_X2_there ha hN hN6 N 0 (nI 0) (by omega)
def sumL (f : Nat → Int32) : Nat → Nat → Int32 → Int32
  | 0, _, s => s
  | k + 1, c, s => sumL f k (c + 1) (s + f c)
theorem lp_X2_heldAll (ha : jm_ia a = true) (hN : m a 6 = nI N) (hN6 : N ≤ 6) : ∀ (k c : Nat) (s : Int32), c + k = N → jm_R d md_X2_heldByAll 4 [.ref a, .int s, .int (nI c)] [] (jm_mk m) = some (some (.int (sumL (m (a + 6)) k c s)), jm_mk m) := by
  intro k
  induction k with
  | zero =>
    intro c s h
    have h1 : nI N ≤ nI c := nI_le (by omega) (by omega)
    rw [e_X2_heldByAll_4]
    simp only [e_X2_heldByAll_0, e_X2_heldByAll_1, e_X2_heldByAll_2, e_X2_heldByAll_3, e_X2_heldByAll_5, e_X2_heldByAll_6, e_X2_heldByAll_9, e_X2_heldByAll_12, e_X2_heldByAll_13, e_X2_heldByAll_14, e_X2_heldByAll_17, e_X2_heldByAll_18, e_X2_heldByAll_19, e_X2_heldByAll_20, e_X2_heldByAll_21, e_X2_heldByAll_24, e_X2_heldByAll_27, e_X2_heldByAll_28, ha, hN, h1, if_true]
    rfl
  | succ k ih =>
    intro c s h
    have h1 : ¬ nI N ≤ nI c := nI_ge (by omega) (by omega)
    have h6 : c < 6 := by omega
    rw [e_X2_heldByAll_4]
    simp only [e_X2_heldByAll_0, e_X2_heldByAll_1, e_X2_heldByAll_2, e_X2_heldByAll_3, e_X2_heldByAll_5, e_X2_heldByAll_6, e_X2_heldByAll_9, e_X2_heldByAll_12, e_X2_heldByAll_13, e_X2_heldByAll_14, e_X2_heldByAll_17, e_X2_heldByAll_18, e_X2_heldByAll_19, e_X2_heldByAll_20, e_X2_heldByAll_21, e_X2_heldByAll_24, e_X2_heldByAll_27, e_X2_heldByAll_28, ha, hN, h1, if_false, h6, nI_add, ih _ _ (show c + 1 + k = N by omega)]
    rfl
theorem q_heldAll (ha : jm_ia a = true) (hN : m a 6 = nI N) (hN6 : N ≤ 6) : jm_K d md_X2_heldByAll [.ref a] (jm_mk m) = some (some (.int (sumL (m (a + 6)) N 0 (nI 0))), jm_mk m) := by
  show jm_R d md_X2_heldByAll 0 [.ref a, .null, .null] [] _ = _
  simp only [e_X2_heldByAll_0, e_X2_heldByAll_1, e_X2_heldByAll_2, e_X2_heldByAll_3, e_X2_heldByAll_5, e_X2_heldByAll_6, e_X2_heldByAll_9, e_X2_heldByAll_12, e_X2_heldByAll_13, e_X2_heldByAll_14, e_X2_heldByAll_17, e_X2_heldByAll_18, e_X2_heldByAll_19, e_X2_heldByAll_20, e_X2_heldByAll_21, e_X2_heldByAll_24, e_X2_heldByAll_27, e_X2_heldByAll_28]
  exact lp_X2_heldAll ha hN hN6 N 0 (nI 0) (by omega)
theorem lp_X7_allHeld (hN : m 221 4 = nI N) (hN6 : N ≤ 6) : ∀ (k c : Nat) (s : Int32), c + k = N → jm_R d md_X7_allHeld 4 [.ref 217, .int s, .int (nI c)] [] (jm_mk m) = some (some (.int (sumL (fun b => m 221 (38 + b)) k c s)), jm_mk m) := by
  intro k
  induction k with
  | zero =>
    intro c s h
    have h1 : nI N ≤ nI c := nI_le (by omega) (by omega)
    rw [e_X7_allHeld_4]
    simp only [e_X7_allHeld_0, e_X7_allHeld_1, e_X7_allHeld_2, e_X7_allHeld_3, e_X7_allHeld_5, e_X7_allHeld_6, e_X7_allHeld_9, e_X7_allHeld_10, e_X7_allHeld_11, e_X7_allHeld_14, e_X7_allHeld_15, e_X7_allHeld_16, e_X7_allHeld_19, e_X7_allHeld_21, e_X7_allHeld_22, e_X7_allHeld_23, e_X7_allHeld_24, e_X7_allHeld_25, e_X7_allHeld_26, e_X7_allHeld_29, e_X7_allHeld_32, e_X7_allHeld_33, show (4 : Nat) < 44 by decide, hN, h1, if_true]
    rfl
  | succ k ih =>
    intro c s h
    have h1 : ¬ nI N ≤ nI c := nI_ge (by omega) (by omega)
    have h6 : 38 + c < 44 := by omega
    rw [e_X7_allHeld_4]
    simp only [e_X7_allHeld_0, e_X7_allHeld_1, e_X7_allHeld_2, e_X7_allHeld_3, e_X7_allHeld_5, e_X7_allHeld_6, e_X7_allHeld_9, e_X7_allHeld_10, e_X7_allHeld_11, e_X7_allHeld_14, e_X7_allHeld_15, e_X7_allHeld_16, e_X7_allHeld_19, e_X7_allHeld_21, e_X7_allHeld_22, e_X7_allHeld_23, e_X7_allHeld_24, e_X7_allHeld_25, e_X7_allHeld_26, e_X7_allHeld_29, e_X7_allHeld_32, e_X7_allHeld_33, show (4 : Nat) < 44 by decide, hN, h1, if_false, h6, nI_add, ih _ _ (show c + 1 + k = N by omega)]
    rfl
theorem q_allHeld (hN : m 221 4 = nI N) (hN6 : N ≤ 6) : jm_K d md_X7_allHeld [.ref 217] (jm_mk m) = some (some (.int (sumL (fun b => m 221 (38 + b)) N 0 (nI 0))), jm_mk m) := by
  show jm_R d md_X7_allHeld 0 [.ref 217, .null, .null] [] _ = _
  simp only [e_X7_allHeld_0, e_X7_allHeld_1, e_X7_allHeld_2, e_X7_allHeld_3, e_X7_allHeld_5, e_X7_allHeld_6, e_X7_allHeld_9, e_X7_allHeld_10, e_X7_allHeld_11, e_X7_allHeld_14, e_X7_allHeld_15, e_X7_allHeld_16, e_X7_allHeld_19, e_X7_allHeld_21, e_X7_allHeld_22, e_X7_allHeld_23, e_X7_allHeld_24, e_X7_allHeld_25, e_X7_allHeld_26, e_X7_allHeld_29, e_X7_allHeld_32, e_X7_allHeld_33]
  exact lp_X7_allHeld hN hN6 N 0 (nI 0) (by omega)
theorem sumL_congr {f g : Nat → Int32} : ∀ {k c : Nat} {s : Int32}, (∀ j, c ≤ j → j < c + k → f j = g j) → sumL f k c s = sumL g k c s
  | 0, c, s, _ => rfl
  | k + 1, c, s, e => by
    show sumL f k (c + 1) (s + f c) = sumL g k (c + 1) (s + g c)
    rw [e c (Nat.le_refl _) (by omega)]
    exact sumL_congr (fun j h1 h2 => e j (by omega) (by omega))
theorem thrL_congr {f g : Nat → Int32} : ∀ {k c : Nat} {s : Int32}, (∀ j, c ≤ j → j < c + k → f j = g j) → thrL f k c s = thrL g k c s
  | 0, c, s, _ => rfl
  | k + 1, c, s, e => by
    rw [thrL_s, thrL_s, e c (Nat.le_refl _) (by omega)]
    exact thrL_congr (fun j h1 h2 => e j (by omega) (by omega))
theorem q_ownerNow {o : Option Nat} (ho : m 221 7 = ovI o) (h : ∀ b, o = some b → b < N) (hN : N ≤ 6) : jm_K d md_X7_ownerNow [.ref 217] (jm_mk m) = some (some (.int (if ovI o = -1 then -1000000 else ovI o)), jm_mk m) := by
  show jm_R d md_X7_ownerNow 0 [.ref 217] [] _ = _
  have e := ov_lt h hN
  cases o with
  | none => simp only [e_X7_ownerNow_0, e_X7_ownerNow_1, e_X7_ownerNow_4, e_X7_ownerNow_6, e_X7_ownerNow_7, e_X7_ownerNow_10, e_X7_ownerNow_12, e_X7_ownerNow_15, e_X7_ownerNow_16, e_X7_ownerNow_19, e_X7_ownerNow_21, e_X7_ownerNow_22, show (7 : Nat) < 44 by decide, ho, ovI, show ¬ nI 0 ≤ (-1 : Int32) by decide, if_false, if_true]
  | some b =>
    have hb := h b rfl
    simp only [e_X7_ownerNow_0, e_X7_ownerNow_1, e_X7_ownerNow_4, e_X7_ownerNow_6, e_X7_ownerNow_7, e_X7_ownerNow_10, e_X7_ownerNow_12, e_X7_ownerNow_15, e_X7_ownerNow_16, e_X7_ownerNow_19, e_X7_ownerNow_21, e_X7_ownerNow_22, show (7 : Nat) < 44 by decide, ho, ovI, nI_le (Nat.zero_le b) (show b < 2 ^ 31 by omega), if_true, nI_m1 (show b < 2 ^ 31 by omega), if_false]
end QS
