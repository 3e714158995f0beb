/-! barred, who -/
theorem Api.tst {mc mm : jm_Md} {As : List Value} {m : Nat → Nat → Int32} (hR : Rel m) {r : Value} {v : Int32} {x : Nat → Nat → Int32} (h1 : jm_K 12 mc (.ref 0 :: As) (jm_mk m) = some (some r, jm_mk (jm_up (wrI m 208 x) 0 7 v))) (h2 : ∀ m1 : Nat → Nat → Int32, (∀ a, a ≠ 0 → ¬ (208 ≤ a ∧ a < 215) → m1 a = m a) → ∃ z y : Nat → Int32, jm_K 12 mm (.ref 217 :: As) (jm_mk (wrA (wrA m1 226 (m 226)) 221 (m 221))) = some (some r, jm_mk (jm_up (wrA (wrA m1 226 z) 221 y) 217 3 v)) ∧ ∀ j, j < 44 → y j = m 221 j) : ∃ (r : Value) (m1 m2 : Nat → Nat → Int32), jm_K 12 mc (.ref 0 :: As) (jm_mk m) = some (some r, jm_mk m1) ∧ jm_K 12 mm (.ref 217 :: As) (jm_mk m1) = some (some r, jm_mk m2) ∧ Rel m2 := by
  have ro : ∀ a, a ≠ 0 → ¬ (208 ≤ a ∧ a < 215) → jm_up (wrI m 208 x) 0 7 v a = m a := fun a ha hb => by rw [jupr ha, wrI_o hb]
  obtain ⟨z, y, h3, h4⟩ := h2 (jm_up (wrI m 208 x) 0 7 v) ro
  have e := wr2_self (m := jm_up (wrI m 208 x) 0 7 v)
  rw [ro 226 (by decide) (by decide), ro 221 (by decide) (by decide)] at e
  rw [e] at h3
  refine ⟨r, _, _, h1, h3, (hR.st v).ag (fun a j q1 q2 q3 => ?_)⟩
  by_cases q : a = 217 ∧ j = 3
  · obtain ⟨rfl, rfl⟩ := q
    rw [jup_eq, jup_eq]
  · rw [jup_ne q, jup_ne q]
    by_cases p : a = 221
    · subst p
      rw [wrA_at, jupr (by decide)]
      exact h4 j (q3 rfl)
    · rw [wrA_ne p, wrA_ne q2]
      unfold jm_up
      rw [wrI_o q1]
section LK
variable {d r : Nat} {i : Int32} {n : Nat} {m : Nat → Nat → Int32}
theorem k_lacks1 (hr : r < 8) (h : m 219 r = -1) : jm_K (d + 1) md_X7_lacks [.ref 217, .int (nI r), .int i, .int (nI n)] (jm_mk m) = some (some (.int (-1000010 - nI 1)), jm_mk (jm_up m 217 3 (nI 1))) := by
  show jm_R (d + 1) md_X7_lacks 0 [.ref 217, .int (nI r), .int i, .int (nI n)] [] _ = _
  have m3 : ¬ nI 0 ≤ (-1 : Int32) := by decide
  simp only [e_X7_lacks_0, e_X7_lacks_1, e_X7_lacks_4, e_X7_lacks_5, e_X7_lacks_6, e_X7_lacks_9, e_X7_lacks_10, e_X7_lacks_11, e_X7_lacks_14, e_X7_lacks_15, e_X7_lacks_16, e_X7_lacks_17, e_X7_lacks_18, e_X7_lacks_19, e_X7_lacks_22, e_X7_lacks_23, e_X7_lacks_24, e_X7_lacks_25, e_X7_lacks_26, e_X7_lacks_27, e_X7_lacks_30, e_X7_lacks_33, e_X7_lacks_34, e_X7_lacks_37, e_X7_lacks_38, e_X7_lacks_39, e_X7_lacks_42, hr, h, m3, if_false, k_X7_find, jm_bd_v]
theorem lackI {l : Nat} (hl : l ≤ 40) (hn : n ≤ 40) : (¬ i < nI 0 ∧ ¬ nI l - nI n < i) ↔ hpP i (nI n) l := by
  constructor
  · rintro ⟨h1, h2⟩
    obtain ⟨a, ha, rfl⟩ := nI_of (x := i) h1
    rw [Int32.lt_iff_toInt_lt, pk_sub_toInt (by omega) (by omega), nI_toInt ha] at h2
    exact ⟨a, n, rfl, rfl, by omega⟩
  · rintro ⟨a, b, rfl, h2, h3⟩
    have h4 := (nI_eq (by omega) (by omega)).mp h2
    subst h4
    refine ⟨nI_nlt0 (by omega), ?_⟩
    rw [Int32.lt_iff_toInt_lt, pk_sub_toInt (by omega) (by omega), nI_toInt (by omega)]
    omega
theorem k_lacks0 {l : Nat} (hr : r < 8) (h : m 219 r = nI l) (hl : l ≤ 40) (hn : n ≤ 40) (hp : hpP i (nI n) l) : jm_K (d + 1) md_X7_lacks [.ref 217, .int (nI r), .int i, .int (nI n)] (jm_mk m) = some (some (.int (nI 0)), jm_mk m) := by
  show jm_R (d + 1) md_X7_lacks 0 [.ref 217, .int (nI r), .int i, .int (nI n)] [] _ = _
  have h0 : nI 0 ≤ nI l := nI_le (Nat.zero_le _) (by omega)
  have hi := (lackI hl hn).mpr hp
  simp only [e_X7_lacks_0, e_X7_lacks_1, e_X7_lacks_4, e_X7_lacks_5, e_X7_lacks_6, e_X7_lacks_9, e_X7_lacks_10, e_X7_lacks_11, e_X7_lacks_14, e_X7_lacks_15, e_X7_lacks_16, e_X7_lacks_17, e_X7_lacks_18, e_X7_lacks_19, e_X7_lacks_22, e_X7_lacks_23, e_X7_lacks_24, e_X7_lacks_25, e_X7_lacks_26, e_X7_lacks_27, e_X7_lacks_30, e_X7_lacks_33, e_X7_lacks_34, e_X7_lacks_37, e_X7_lacks_38, e_X7_lacks_39, e_X7_lacks_42, hr, h, h0, if_true, lN_64 (show 0 < 2 ^ 31 by decide), k_X7_inI, jm_bd_v, if_pos hi, bv1, if_false]
theorem k_lacks2 {l : Nat} (hr : r < 8) (h : m 219 r = nI l) (hl : l ≤ 40) (hn : n ≤ 40) (hp : ¬ hpP i (nI n) l) : jm_K (d + 1) md_X7_lacks [.ref 217, .int (nI r), .int i, .int (nI n)] (jm_mk m) = some (some (.int (-1000010 - nI 2)), jm_mk (jm_up m 217 3 (nI 2))) := by
  show jm_R (d + 1) md_X7_lacks 0 [.ref 217, .int (nI r), .int i, .int (nI n)] [] _ = _
  have h0 : nI 0 ≤ nI l := nI_le (Nat.zero_le _) (by omega)
  have hi : ¬ (¬ i < nI 0 ∧ ¬ nI l - nI n < i) := fun z => hp ((lackI hl hn).mp z)
  simp only [e_X7_lacks_0, e_X7_lacks_1, e_X7_lacks_4, e_X7_lacks_5, e_X7_lacks_6, e_X7_lacks_9, e_X7_lacks_10, e_X7_lacks_11, e_X7_lacks_14, e_X7_lacks_15, e_X7_lacks_16, e_X7_lacks_17, e_X7_lacks_18, e_X7_lacks_19, e_X7_lacks_22, e_X7_lacks_23, e_X7_lacks_24, e_X7_lacks_25, e_X7_lacks_26, e_X7_lacks_27, e_X7_lacks_30, e_X7_lacks_33, e_X7_lacks_34, e_X7_lacks_37, e_X7_lacks_38, e_X7_lacks_39, e_X7_lacks_42, hr, h, h0, if_true, lN_64 (show 0 < 2 ^ 31 by decide), k_X7_inI, jm_bd_v, if_neg hi, k_X7_find]
end LK
set_option maxRecDepth 100000 in
theorem xor_bit : ∀ s, s < 64 → ∀ b, b < 6 → (nI s >>> (nI b &&& 31)) &&& nI 1 = nI 1 → nI s ^^^ (nI 1 <<< (nI b &&& 31)) = nI (anN s (2 ^ b)) := by decide +kernel
theorem p2_lt {b N : Nat} (h : b < N) (hN : N ≤ 6) : 2 ^ b < 64 := Nat.lt_of_lt_of_le (Nat.pow_lt_pow_right (by decide) h) (pow_le hN)
def brF (y : Nat → Int32) (s : Nat) (f : Nat → Int32) (n b : Nat) : Int32 := if (nI s >>> (nI b &&& 31)) &&& nI 1 = nI 1 ∧ gtM f n 0 (upd y 6 (nI (anN s (2 ^ b)))) = true then nI 1 <<< (nI b &&& 31) else nI 0
theorem lp_X4_barring {d C N r i n s : Nat} {m : Nat → Nat → Int32} {y : Nat → Int32} (hr : r < 8) (hi : i + n ≤ 40) (g : GN C N (vwI m 200) y) (hs : s < 2 ^ N) (ms : m 200 7 = nI s) : ∀ (k c : Nat) (t : Int32) (x : Nat → Nat → Int32), c + k = N → ∃ x', jm_R (d + 4) md_X4_barring 32 [.ref 207, .ref (3 + r), .int (nI i), .int (nI n), .int t, .int (nI c)] [] (jm_mk (wrI m 208 x)) = some (some (.int (orL (brF y s (fun t => m (3 + r) (i + t)) n) k c t)), jm_mk (wrI m 208 x')) := by
  have hI : jm_ia 200 = true := by decide
  have ha : jm_ia 208 = true := by decide
  have hN6 := g.N6
  have hp := pow_le hN6
  have c6 : ∀ x, wrI m 208 x 200 6 = nI N := fun x => by
    rw [wrI_o (by decide)]
    obtain ⟨o, a1, a2, a3, -⟩ := g.all
    exact a3
  have c7 : ∀ x, wrI m 208 x 200 7 = nI s := fun x => by rw [wrI_o (by decide)]; exact ms
  intro k
  induction k with
  | zero =>
    intro c t x h
    have h1 : nI N ≤ nI c := nI_le (by omega) (by omega)
    refine ⟨x, ?_⟩
    rw [e_X4_barring_32]
    simp only [e_X4_barring_0, e_X4_barring_1, e_X4_barring_4, e_X4_barring_5, e_X4_barring_8, e_X4_barring_11, e_X4_barring_12, e_X4_barring_13, e_X4_barring_14, e_X4_barring_15, e_X4_barring_18, e_X4_barring_21, e_X4_barring_23, e_X4_barring_26, e_X4_barring_27, e_X4_barring_29, e_X4_barring_30, e_X4_barring_34, e_X4_barring_35, e_X4_barring_38, e_X4_barring_41, e_X4_barring_44, e_X4_barring_45, e_X4_barring_48, e_X4_barring_50, e_X4_barring_53, e_X4_barring_56, e_X4_barring_59, e_X4_barring_60, e_X4_barring_63, e_X4_barring_64, e_X4_barring_67, e_X4_barring_70, e_X4_barring_71, e_X4_barring_74, e_X4_barring_75, e_X4_barring_78, e_X4_barring_79, e_X4_barring_81, e_X4_barring_82, e_X4_barring_83, e_X4_barring_84, e_X4_barring_85, e_X4_barring_88, e_X4_barring_89, e_X4_barring_90, e_X4_barring_91, e_X4_barring_92, e_X4_barring_95, e_X4_barring_98, e_X4_barring_100, e_X4_barring_101, e_X4_barring_103, e_X4_barring_104, e_X4_barring_105, e_X4_barring_107, e_X4_barring_110, e_X4_barring_113, e_X4_barring_115, hI, c6, h1, if_true]
    rfl
  | succ k ih =>
    intro c t x h
    have h1 : ¬ nI N ≤ nI c := nI_ge (by omega) (by omega)
    have hc := p2_lt (show c < N by omega) hN6
    have ea : nI s &&& ((nI 1 <<< (nI c &&& 31)) ^^^ (-1)) = nI (anN s (2 ^ c)) := by rw [shl_1 c (by omega)]; exact an_I (by omega) hc
    have hsa : anN s (2 ^ c) < 2 ^ N := by have := an_le (show s < 64 by omega) hc; omega
    show ∃ x', _ = some (some (Value.int (orL (brF y s (fun t => m (3 + r) (i + t)) n) k (c + 1) (t ||| brF y s (fun t => m (3 + r) (i + t)) n c))), jm_mk (wrI m 208 x'))
    by_cases q : (nI s >>> (nI c &&& 31)) &&& nI 1 = nI 1
    · have gb := g.bec (w := x)
      have g1 := gb.snt hsa
      have xs : becI x (vwI m 200) 0 7 = nI s := by
        unfold becI
        rw [if_pos rfl, if_pos (by decide)]
        exact ms
      obtain ⟨x1, e1⟩ := k_X4_goes (d := d) (m := m) (r := r) (i := i) (n := n) hr hi g1
      obtain ⟨x2, e2⟩ := ih (c + 1) (t ||| brF y s (fun t => m (3 + r) (i + t)) n c) x1 (by omega)
      refine ⟨x2, ?_⟩
      rw [← e2, e_X4_barring_32]
      unfold brF
      by_cases z : gtM (fun t => m (3 + r) (i + t)) n 0 (upd y 6 (nI (anN s (2 ^ c)))) = true
      · rw [if_pos z] at e1
        simp only [e_X4_barring_0, e_X4_barring_1, e_X4_barring_4, e_X4_barring_5, e_X4_barring_8, e_X4_barring_11, e_X4_barring_12, e_X4_barring_13, e_X4_barring_14, e_X4_barring_15, e_X4_barring_18, e_X4_barring_21, e_X4_barring_23, e_X4_barring_26, e_X4_barring_27, e_X4_barring_29, e_X4_barring_30, e_X4_barring_34, e_X4_barring_35, e_X4_barring_38, e_X4_barring_41, e_X4_barring_44, e_X4_barring_45, e_X4_barring_48, e_X4_barring_50, e_X4_barring_53, e_X4_barring_56, e_X4_barring_59, e_X4_barring_60, e_X4_barring_63, e_X4_barring_64, e_X4_barring_67, e_X4_barring_70, e_X4_barring_71, e_X4_barring_74, e_X4_barring_75, e_X4_barring_78, e_X4_barring_79, e_X4_barring_81, e_X4_barring_82, e_X4_barring_83, e_X4_barring_84, e_X4_barring_85, e_X4_barring_88, e_X4_barring_89, e_X4_barring_90, e_X4_barring_91, e_X4_barring_92, e_X4_barring_95, e_X4_barring_98, e_X4_barring_100, e_X4_barring_101, e_X4_barring_103, e_X4_barring_104, e_X4_barring_105, e_X4_barring_107, e_X4_barring_110, e_X4_barring_113, e_X4_barring_115, hI, ha, c6, h1, if_false, k_X2_isSent hI, c7, q, if_true, jm_bd_v, jm_bd_0, bv1, not_false_eq_true, k_bec, wrI_0, xs, ea, wrI_u0, e1, z, and_self, nI_add]
      · rw [if_neg z] at e1
        simp only [e_X4_barring_0, e_X4_barring_1, e_X4_barring_4, e_X4_barring_5, e_X4_barring_8, e_X4_barring_11, e_X4_barring_12, e_X4_barring_13, e_X4_barring_14, e_X4_barring_15, e_X4_barring_18, e_X4_barring_21, e_X4_barring_23, e_X4_barring_26, e_X4_barring_27, e_X4_barring_29, e_X4_barring_30, e_X4_barring_34, e_X4_barring_35, e_X4_barring_38, e_X4_barring_41, e_X4_barring_44, e_X4_barring_45, e_X4_barring_48, e_X4_barring_50, e_X4_barring_53, e_X4_barring_56, e_X4_barring_59, e_X4_barring_60, e_X4_barring_63, e_X4_barring_64, e_X4_barring_67, e_X4_barring_70, e_X4_barring_71, e_X4_barring_74, e_X4_barring_75, e_X4_barring_78, e_X4_barring_79, e_X4_barring_81, e_X4_barring_82, e_X4_barring_83, e_X4_barring_84, e_X4_barring_85, e_X4_barring_88, e_X4_barring_89, e_X4_barring_90, e_X4_barring_91, e_X4_barring_92, e_X4_barring_95, e_X4_barring_98, e_X4_barring_100, e_X4_barring_101, e_X4_barring_103, e_X4_barring_104, e_X4_barring_105, e_X4_barring_107, e_X4_barring_110, e_X4_barring_113, e_X4_barring_115, hI, ha, c6, h1, if_false, k_X2_isSent hI, c7, q, if_true, jm_bd_v, jm_bd_0, bv1, not_false_eq_true, k_bec, wrI_0, xs, ea, wrI_u0, e1, z, and_false, nI_add, or0, Bool.false_eq_true]
    · obtain ⟨x2, e2⟩ := ih (c + 1) t x (by omega)
      have e3 : brF y s (fun t => m (3 + r) (i + t)) n c = nI 0 := if_neg (fun h => q h.1)
      refine ⟨x2, ?_⟩
      rw [e3, or0, ← e2, e_X4_barring_32]
      simp only [e_X4_barring_0, e_X4_barring_1, e_X4_barring_4, e_X4_barring_5, e_X4_barring_8, e_X4_barring_11, e_X4_barring_12, e_X4_barring_13, e_X4_barring_14, e_X4_barring_15, e_X4_barring_18, e_X4_barring_21, e_X4_barring_23, e_X4_barring_26, e_X4_barring_27, e_X4_barring_29, e_X4_barring_30, e_X4_barring_34, e_X4_barring_35, e_X4_barring_38, e_X4_barring_41, e_X4_barring_44, e_X4_barring_45, e_X4_barring_48, e_X4_barring_50, e_X4_barring_53, e_X4_barring_56, e_X4_barring_59, e_X4_barring_60, e_X4_barring_63, e_X4_barring_64, e_X4_barring_67, e_X4_barring_70, e_X4_barring_71, e_X4_barring_74, e_X4_barring_75, e_X4_barring_78, e_X4_barring_79, e_X4_barring_81, e_X4_barring_82, e_X4_barring_83, e_X4_barring_84, e_X4_barring_85, e_X4_barring_88, e_X4_barring_89, e_X4_barring_90, e_X4_barring_91, e_X4_barring_92, e_X4_barring_95, e_X4_barring_98, e_X4_barring_100, e_X4_barring_101, e_X4_barring_103, e_X4_barring_104, e_X4_barring_105, e_X4_barring_107, e_X4_barring_110, e_X4_barring_113, e_X4_barring_115, hI, c6, h1, if_false, k_X2_isSent hI, c7, q, jm_bd_v, not_true_eq_false, nI_add]
theorem lp_X7_barred {C N r i n s : Nat} {m x : Nat → Nat → Int32} {z : Nat → Int32} (hr : r < 8) (hi : i + n ≤ 40) (g : GN C N x z) (hs : s < 2 ^ N) (ms : z 6 = nI s) : ∀ (k c : Nat) (t : Int32) (l4 : Int32) (y : Nat → Int32), (∀ j, j < 44 → y j = z j) → c + k = N → ∃ y', jm_R 12 md_X7_barred 80 [.ref 217, .int (nI r), .int (nI i), .int (nI n), .int l4, .int t, .int (nI c)] [] (jm_mk (wrA (wrA m 226 z) 221 y)) = some (some (.int (orL (brF z s (fun t => m 220 (40 * r + i + t)) n) k c t)), jm_mk (jm_up (wrA (wrA m 226 z) 221 y') 217 3 (nI 0))) ∧ ∀ j, j < 44 → y' j = z j := by
  have hN6 := g.N6
  have hp := pow_le hN6
  intro k
  induction k with
  | zero =>
    intro c t l4 y hy h
    have m4 : y 4 = nI N := by obtain ⟨o, hv, hr⟩ := g.congr hy; exact hv.2.1.1
    have h1 : nI N ≤ nI c := nI_le (by omega) (by omega)
    refine ⟨y, ?_, hy⟩
    rw [e_X7_barred_80]
    simp only [e_X7_barred_0, e_X7_barred_1, e_X7_barred_4, e_X7_barred_7, e_X7_barred_9, e_X7_barred_10, e_X7_barred_11, e_X7_barred_14, e_X7_barred_17, e_X7_barred_18, e_X7_barred_19, e_X7_barred_20, e_X7_barred_23, e_X7_barred_26, e_X7_barred_29, e_X7_barred_31, e_X7_barred_34, e_X7_barred_35, e_X7_barred_36, e_X7_barred_37, e_X7_barred_38, e_X7_barred_41, e_X7_barred_43, e_X7_barred_45, e_X7_barred_48, e_X7_barred_50, e_X7_barred_51, e_X7_barred_52, e_X7_barred_55, e_X7_barred_56, e_X7_barred_58, e_X7_barred_59, e_X7_barred_60, e_X7_barred_61, e_X7_barred_62, e_X7_barred_63, e_X7_barred_66, e_X7_barred_69, e_X7_barred_71, e_X7_barred_74, e_X7_barred_75, e_X7_barred_77, e_X7_barred_78, e_X7_barred_82, e_X7_barred_83, e_X7_barred_86, e_X7_barred_87, e_X7_barred_88, e_X7_barred_91, e_X7_barred_92, e_X7_barred_95, e_X7_barred_97, e_X7_barred_98, e_X7_barred_100, e_X7_barred_103, e_X7_barred_106, e_X7_barred_107, e_X7_barred_110, e_X7_barred_112, e_X7_barred_113, e_X7_barred_114, e_X7_barred_115, e_X7_barred_117, e_X7_barred_118, e_X7_barred_119, e_X7_barred_120, e_X7_barred_122, e_X7_barred_123, e_X7_barred_125, e_X7_barred_126, e_X7_barred_127, e_X7_barred_128, e_X7_barred_129, e_X7_barred_130, e_X7_barred_133, e_X7_barred_136, e_X7_barred_137, e_X7_barred_139, e_X7_barred_140, e_X7_barred_143, e_X7_barred_144, e_X7_barred_145, e_X7_barred_147, e_X7_barred_150, e_X7_barred_153, e_X7_barred_154, e_X7_barred_156, e_X7_barred_159, show (4 : Nat) < 44 by decide, wrA_at, m4, h1, if_true, k_X7_well, jm_bd_v]
    rfl
  | succ k ih =>
    intro c t l4 y hy h
    have m4 : y 4 = nI N := by obtain ⟨o, hv, hr⟩ := g.congr hy; exact hv.2.1.1
    have h1 : ¬ nI N ≤ nI c := nI_ge (by omega) (by omega)
    have gy := g.congr hy
    have y6 : y 6 = nI s := by rw [hy 6 (by decide)]; exact ms
    have hc := p2_lt (show c < N by omega) hN6
    have hsa : anN s (2 ^ c) < 2 ^ N := by have := an_le (show s < 64 by omega) hc; omega
    show ∃ y', _ = some (some (Value.int (orL (brF z s (fun t => m 220 (40 * r + i + t)) n) k (c + 1) (t ||| brF z s (fun t => m 220 (40 * r + i + t)) n c))), jm_mk (jm_up (wrA (wrA m 226 z) 221 y') 217 3 (nI 0))) ∧ _
    by_cases q : (nI s >>> (nI c &&& 31)) &&& nI 1 = nI 1
    · have ex := xor_bit s (by omega) c (by omega) q
      obtain ⟨y1, e1⟩ := k_X7_isSo (d := 7) (m := m) (z := z) (A := 40 * r + i) (n := n) (by omega) (by omega) (gy.snt hsa)
      have eg : gtM (fun t => m 220 (40 * r + i + t)) n 0 (upd y 6 (nI (anN s (2 ^ c)))) = gtM (fun t => m 220 (40 * r + i + t)) n 0 (upd z 6 (nI (anN s (2 ^ c)))) := gtM_x n 0 (gy.snt hsa) (g.snt hsa) (fun _ _ _ => rfl)
      rw [eg] at e1
      obtain ⟨y2, e2, e3⟩ := ih (c + 1) (t ||| brF z s (fun t => m 220 (40 * r + i + t)) n c) l4 (cp44 z y1) (fun j hj => cp44_lt hj) (by omega)
      refine ⟨y2, ?_, e3⟩
      rw [← e2, e_X7_barred_80]
      unfold brF
      by_cases u : gtM (fun t => m 220 (40 * r + i + t)) n 0 (upd z 6 (nI (anN s (2 ^ c)))) = true
      · rw [if_pos u] at e1
        simp only [e_X7_barred_0, e_X7_barred_1, e_X7_barred_4, e_X7_barred_7, e_X7_barred_9, e_X7_barred_10, e_X7_barred_11, e_X7_barred_14, e_X7_barred_17, e_X7_barred_18, e_X7_barred_19, e_X7_barred_20, e_X7_barred_23, e_X7_barred_26, e_X7_barred_29, e_X7_barred_31, e_X7_barred_34, e_X7_barred_35, e_X7_barred_36, e_X7_barred_37, e_X7_barred_38, e_X7_barred_41, e_X7_barred_43, e_X7_barred_45, e_X7_barred_48, e_X7_barred_50, e_X7_barred_51, e_X7_barred_52, e_X7_barred_55, e_X7_barred_56, e_X7_barred_58, e_X7_barred_59, e_X7_barred_60, e_X7_barred_61, e_X7_barred_62, e_X7_barred_63, e_X7_barred_66, e_X7_barred_69, e_X7_barred_71, e_X7_barred_74, e_X7_barred_75, e_X7_barred_77, e_X7_barred_78, e_X7_barred_82, e_X7_barred_83, e_X7_barred_86, e_X7_barred_87, e_X7_barred_88, e_X7_barred_91, e_X7_barred_92, e_X7_barred_95, e_X7_barred_97, e_X7_barred_98, e_X7_barred_100, e_X7_barred_103, e_X7_barred_106, e_X7_barred_107, e_X7_barred_110, e_X7_barred_112, e_X7_barred_113, e_X7_barred_114, e_X7_barred_115, e_X7_barred_117, e_X7_barred_118, e_X7_barred_119, e_X7_barred_120, e_X7_barred_122, e_X7_barred_123, e_X7_barred_125, e_X7_barred_126, e_X7_barred_127, e_X7_barred_128, e_X7_barred_129, e_X7_barred_130, e_X7_barred_133, e_X7_barred_136, e_X7_barred_137, e_X7_barred_139, e_X7_barred_140, e_X7_barred_143, e_X7_barred_144, e_X7_barred_145, e_X7_barred_147, e_X7_barred_150, e_X7_barred_153, e_X7_barred_154, e_X7_barred_156, e_X7_barred_159, show (4 : Nat) < 44 by decide, show (6 : Nat) < 44 by decide, wrA_at, m4, y6, h1, if_false, k_X7_has, q, if_true, jm_bd_v, bv1, ex, wrA_up, nI_mulN, nI_add, e1, u, and_self]
      · rw [if_neg u] at e1
        simp only [e_X7_barred_0, e_X7_barred_1, e_X7_barred_4, e_X7_barred_7, e_X7_barred_9, e_X7_barred_10, e_X7_barred_11, e_X7_barred_14, e_X7_barred_17, e_X7_barred_18, e_X7_barred_19, e_X7_barred_20, e_X7_barred_23, e_X7_barred_26, e_X7_barred_29, e_X7_barred_31, e_X7_barred_34, e_X7_barred_35, e_X7_barred_36, e_X7_barred_37, e_X7_barred_38, e_X7_barred_41, e_X7_barred_43, e_X7_barred_45, e_X7_barred_48, e_X7_barred_50, e_X7_barred_51, e_X7_barred_52, e_X7_barred_55, e_X7_barred_56, e_X7_barred_58, e_X7_barred_59, e_X7_barred_60, e_X7_barred_61, e_X7_barred_62, e_X7_barred_63, e_X7_barred_66, e_X7_barred_69, e_X7_barred_71, e_X7_barred_74, e_X7_barred_75, e_X7_barred_77, e_X7_barred_78, e_X7_barred_82, e_X7_barred_83, e_X7_barred_86, e_X7_barred_87, e_X7_barred_88, e_X7_barred_91, e_X7_barred_92, e_X7_barred_95, e_X7_barred_97, e_X7_barred_98, e_X7_barred_100, e_X7_barred_103, e_X7_barred_106, e_X7_barred_107, e_X7_barred_110, e_X7_barred_112, e_X7_barred_113, e_X7_barred_114, e_X7_barred_115, e_X7_barred_117, e_X7_barred_118, e_X7_barred_119, e_X7_barred_120, e_X7_barred_122, e_X7_barred_123, e_X7_barred_125, e_X7_barred_126, e_X7_barred_127, e_X7_barred_128, e_X7_barred_129, e_X7_barred_130, e_X7_barred_133, e_X7_barred_136, e_X7_barred_137, e_X7_barred_139, e_X7_barred_140, e_X7_barred_143, e_X7_barred_144, e_X7_barred_145, e_X7_barred_147, e_X7_barred_150, e_X7_barred_153, e_X7_barred_154, e_X7_barred_156, e_X7_barred_159, show (4 : Nat) < 44 by decide, show (6 : Nat) < 44 by decide, wrA_at, m4, y6, h1, if_false, k_X7_has, q, if_true, jm_bd_v, bv1, ex, wrA_up, nI_mulN, nI_add, e1, u, and_false, Bool.false_eq_true]
    · obtain ⟨y2, e2, e2'⟩ := ih (c + 1) t l4 y hy (by omega)
      have e3 : brF z s (fun t => m 220 (40 * r + i + t)) n c = nI 0 := if_neg (fun h => q h.1)
      refine ⟨y2, ?_, e2'⟩
      rw [e3, or0, ← e2, e_X7_barred_80]
      simp only [e_X7_barred_0, e_X7_barred_1, e_X7_barred_4, e_X7_barred_7, e_X7_barred_9, e_X7_barred_10, e_X7_barred_11, e_X7_barred_14, e_X7_barred_17, e_X7_barred_18, e_X7_barred_19, e_X7_barred_20, e_X7_barred_23, e_X7_barred_26, e_X7_barred_29, e_X7_barred_31, e_X7_barred_34, e_X7_barred_35, e_X7_barred_36, e_X7_barred_37, e_X7_barred_38, e_X7_barred_41, e_X7_barred_43, e_X7_barred_45, e_X7_barred_48, e_X7_barred_50, e_X7_barred_51, e_X7_barred_52, e_X7_barred_55, e_X7_barred_56, e_X7_barred_58, e_X7_barred_59, e_X7_barred_60, e_X7_barred_61, e_X7_barred_62, e_X7_barred_63, e_X7_barred_66, e_X7_barred_69, e_X7_barred_71, e_X7_barred_74, e_X7_barred_75, e_X7_barred_77, e_X7_barred_78, e_X7_barred_82, e_X7_barred_83, e_X7_barred_86, e_X7_barred_87, e_X7_barred_88, e_X7_barred_91, e_X7_barred_92, e_X7_barred_95, e_X7_barred_97, e_X7_barred_98, e_X7_barred_100, e_X7_barred_103, e_X7_barred_106, e_X7_barred_107, e_X7_barred_110, e_X7_barred_112, e_X7_barred_113, e_X7_barred_114, e_X7_barred_115, e_X7_barred_117, e_X7_barred_118, e_X7_barred_119, e_X7_barred_120, e_X7_barred_122, e_X7_barred_123, e_X7_barred_125, e_X7_barred_126, e_X7_barred_127, e_X7_barred_128, e_X7_barred_129, e_X7_barred_130, e_X7_barred_133, e_X7_barred_136, e_X7_barred_137, e_X7_barred_139, e_X7_barred_140, e_X7_barred_143, e_X7_barred_144, e_X7_barred_145, e_X7_barred_147, e_X7_barred_150, e_X7_barred_153, e_X7_barred_154, e_X7_barred_156, e_X7_barred_159, show (4 : Nat) < 44 by decide, show (6 : Nat) < 44 by decide, wrA_at, m4, y6, h1, if_false, k_X7_has, q, jm_bd_v, if_true, nI_add]
theorem f1n : (-1000010 - nI 1 : Int32) < nI 0 := by decide
theorem f2n : (-1000010 - nI 2 : Int32) < nI 0 := by decide
theorem f1p : ¬ nI 0 ≤ (-1000010 - nI 1 : Int32) := by decide
theorem f2p : ¬ nI 0 ≤ (-1000010 - nI 2 : Int32) := by decide
theorem f3p : ¬ nI 0 ≤ (-1000001 : Int32) := by decide
theorem f0p : nI 0 ≤ nI 0 := by decide
theorem api_barred (r i n : Int32) : Api md_X6_barred md_X7_barred [.int r, .int i, .int n] := by
  intro m hR
  have hR1 := hR.1
  obtain ⟨C, N, hC6, hN6, c6, m4, c5, m3, hcase⟩ := hR.isle
  have hI : jm_ia 200 = true := by decide
  rcases hcase with ⟨q0, q1, q2⟩ | ⟨q0, q2, g⟩
  · subst q0
    refine Api.bad hR (r := .int (-1000002)) ?_ ?_
    · show jm_R 12 md_X6_barred 0 [.ref 0, .int r, .int i, .int n] [] _ = _
      simp only [e_X6_barred_0, e_X6_barred_1, e_X6_barred_4, e_X6_barred_7, e_X6_barred_10, e_X6_barred_12, e_X6_barred_13, e_X6_barred_14, e_X6_barred_17, e_X6_barred_20, e_X6_barred_21, e_X6_barred_22, e_X6_barred_24, e_X6_barred_27, e_X6_barred_30, e_X6_barred_32, e_X6_barred_33, e_X6_barred_34, e_X6_barred_37, e_X6_barred_38, e_X6_barred_41, e_X6_barred_44, e_X6_barred_45, e_X6_barred_46, e_X6_barred_49, e_X6_barred_50, e_X6_barred_51, e_X6_barred_54, e_X6_barred_55, e_X6_barred_56, e_X6_barred_57, e_X6_barred_60, e_X6_barred_63, e_X6_barred_64, e_X6_barred_65, e_X6_barred_68, e_X6_barred_69, e_X6_barred_70, e_X6_barred_71, e_X6_barred_74, e_X6_barred_75, e_X6_barred_78, e_X6_barred_81, e_X6_barred_82, e_X6_barred_83, e_X6_barred_84, e_X6_barred_85, e_X6_barred_88, e_X6_barred_91, k_X2_hasBoat hI, k_X2_stands hI, k_X2_hasCell hI, c6, c5, k_X6_within, jm_bd_v, jm_bd_0, bv1, if_false, if_true, not_false_eq_true, not_true_eq_false, nI_le (Nat.le_refl 0) (show 0 < 2 ^ 31 by decide)]
    · show jm_R 12 md_X7_barred 0 [.ref 217, .int r, .int i, .int n, .null, .null, .null] [] _ = _
      simp only [e_X7_barred_0, e_X7_barred_1, e_X7_barred_4, e_X7_barred_7, e_X7_barred_9, e_X7_barred_10, e_X7_barred_11, e_X7_barred_14, e_X7_barred_17, e_X7_barred_18, e_X7_barred_19, e_X7_barred_20, e_X7_barred_23, e_X7_barred_26, e_X7_barred_29, e_X7_barred_31, e_X7_barred_34, e_X7_barred_35, e_X7_barred_36, e_X7_barred_37, e_X7_barred_38, e_X7_barred_41, e_X7_barred_43, e_X7_barred_45, e_X7_barred_48, e_X7_barred_50, e_X7_barred_51, e_X7_barred_52, e_X7_barred_55, e_X7_barred_56, e_X7_barred_58, e_X7_barred_59, e_X7_barred_60, e_X7_barred_61, e_X7_barred_62, e_X7_barred_63, e_X7_barred_66, e_X7_barred_69, e_X7_barred_71, e_X7_barred_74, e_X7_barred_75, e_X7_barred_77, e_X7_barred_78, e_X7_barred_82, e_X7_barred_83, e_X7_barred_86, e_X7_barred_87, e_X7_barred_88, e_X7_barred_91, e_X7_barred_92, e_X7_barred_95, e_X7_barred_97, e_X7_barred_98, e_X7_barred_100, e_X7_barred_103, e_X7_barred_106, e_X7_barred_107, e_X7_barred_110, e_X7_barred_112, e_X7_barred_113, e_X7_barred_114, e_X7_barred_115, e_X7_barred_117, e_X7_barred_118, e_X7_barred_119, e_X7_barred_120, e_X7_barred_122, e_X7_barred_123, e_X7_barred_125, e_X7_barred_126, e_X7_barred_127, e_X7_barred_128, e_X7_barred_129, e_X7_barred_130, e_X7_barred_133, e_X7_barred_136, e_X7_barred_137, e_X7_barred_139, e_X7_barred_140, e_X7_barred_143, e_X7_barred_144, e_X7_barred_145, e_X7_barred_147, e_X7_barred_150, e_X7_barred_153, e_X7_barred_154, e_X7_barred_156, e_X7_barred_159, q2, jm_bd_v, jm_bd_0, bv1, if_false, if_true, not_false_eq_true, not_true_eq_false]
  · have hst := stN q0 hN6
    have hth := thereOf q2
    have th' : ∀ v, jm_up m 0 7 v 217 4 = m 217 4 := fun v => by rw [jupr (by decide)]
    by_cases hr : ¬ r < nI 0 ∧ ¬ nI 7 < r
    · by_cases hn : ¬ n < nI 1 ∧ ¬ nI 12 < n
      · obtain ⟨r, h8, rfl⟩ := rowOf hr
        obtain ⟨n, hn1, hn12, rfl⟩ := rg_of hn (by omega) (by omega)
        rcases hR1 r h8 with ⟨q1, q2'⟩ | ⟨k, l, h1, h2, h3, h4, h5, h6, h7⟩
        · refine Api.fnd hR (nI 1) (r := .int (-1000010 - nI 1)) ?_ ?_
          · show jm_R 12 md_X6_barred 0 [.ref 0, .int (nI r), .int i, .int (nI n)] [] _ = _
            simp only [e_X6_barred_0, e_X6_barred_1, e_X6_barred_4, e_X6_barred_7, e_X6_barred_10, e_X6_barred_12, e_X6_barred_13, e_X6_barred_14, e_X6_barred_17, e_X6_barred_20, e_X6_barred_21, e_X6_barred_22, e_X6_barred_24, e_X6_barred_27, e_X6_barred_30, e_X6_barred_32, e_X6_barred_33, e_X6_barred_34, e_X6_barred_37, e_X6_barred_38, e_X6_barred_41, e_X6_barred_44, e_X6_barred_45, e_X6_barred_46, e_X6_barred_49, e_X6_barred_50, e_X6_barred_51, e_X6_barred_54, e_X6_barred_55, e_X6_barred_56, e_X6_barred_57, e_X6_barred_60, e_X6_barred_63, e_X6_barred_64, e_X6_barred_65, e_X6_barred_68, e_X6_barred_69, e_X6_barred_70, e_X6_barred_71, e_X6_barred_74, e_X6_barred_75, e_X6_barred_78, e_X6_barred_81, e_X6_barred_82, e_X6_barred_83, e_X6_barred_84, e_X6_barred_85, e_X6_barred_88, e_X6_barred_91, k_X2_hasBoat hI, k_X2_stands hI, k_X2_hasCell hI, c6, c5, k_X6_within, jm_bd_v, jm_bd_0, bv1, if_false, if_true, not_false_eq_true, not_true_eq_false, hst, k_X3_isRow, k_X3_isMissing h8, if_pos hr, if_pos hn, q1, k_X6_finding]
          · show jm_R 12 md_X7_barred 0 [.ref 217, .int (nI r), .int i, .int (nI n), .null, .null, .null] [] _ = _
            have kl := k_lacks1 (d := 10) (i := i) (n := n) (m := jm_up m 0 7 (nI 1)) h8 (by rw [jupr (by decide)]; exact q2')
            simp only [e_X7_barred_0, e_X7_barred_1, e_X7_barred_4, e_X7_barred_7, e_X7_barred_9, e_X7_barred_10, e_X7_barred_11, e_X7_barred_14, e_X7_barred_17, e_X7_barred_18, e_X7_barred_19, e_X7_barred_20, e_X7_barred_23, e_X7_barred_26, e_X7_barred_29, e_X7_barred_31, e_X7_barred_34, e_X7_barred_35, e_X7_barred_36, e_X7_barred_37, e_X7_barred_38, e_X7_barred_41, e_X7_barred_43, e_X7_barred_45, e_X7_barred_48, e_X7_barred_50, e_X7_barred_51, e_X7_barred_52, e_X7_barred_55, e_X7_barred_56, e_X7_barred_58, e_X7_barred_59, e_X7_barred_60, e_X7_barred_61, e_X7_barred_62, e_X7_barred_63, e_X7_barred_66, e_X7_barred_69, e_X7_barred_71, e_X7_barred_74, e_X7_barred_75, e_X7_barred_77, e_X7_barred_78, e_X7_barred_82, e_X7_barred_83, e_X7_barred_86, e_X7_barred_87, e_X7_barred_88, e_X7_barred_91, e_X7_barred_92, e_X7_barred_95, e_X7_barred_97, e_X7_barred_98, e_X7_barred_100, e_X7_barred_103, e_X7_barred_106, e_X7_barred_107, e_X7_barred_110, e_X7_barred_112, e_X7_barred_113, e_X7_barred_114, e_X7_barred_115, e_X7_barred_117, e_X7_barred_118, e_X7_barred_119, e_X7_barred_120, e_X7_barred_122, e_X7_barred_123, e_X7_barred_125, e_X7_barred_126, e_X7_barred_127, e_X7_barred_128, e_X7_barred_129, e_X7_barred_130, e_X7_barred_133, e_X7_barred_136, e_X7_barred_137, e_X7_barred_139, e_X7_barred_140, e_X7_barred_143, e_X7_barred_144, e_X7_barred_145, e_X7_barred_147, e_X7_barred_150, e_X7_barred_153, e_X7_barred_154, e_X7_barred_156, e_X7_barred_159, isRow7, in_1_12, jm_bd_v, jm_bd_0, bv1, if_false, if_true, not_false_eq_true, not_true_eq_false, th', hth, if_pos hr, if_pos hn, kl, f1p]
        · have ea : ¬ m 11 r = -1 := by rw [h3]; exact nI_m1 (by omega)
          by_cases hp : hpP i (nI n) l
          · obtain ⟨i, n', rfl, en, hin⟩ := id hp
            have en' := (nI_eq (by omega) (by omega)).mp en
            subst en'
            have gb := g.bec (w := vwI m 208)
            obtain ⟨s, hs, ms, ms'⟩ := g.sent
            have ms : m 200 7 = nI s := ms
            obtain ⟨x0, e0⟩ := k_X4_goes (d := 7) (m := m) (r := r) (i := i) (n := n) h8 (by omega) gb
            obtain ⟨x1, e1⟩ := lp_X4_barring (d := 7) (m := m) (r := r) (i := i) (n := n) h8 (by omega) g hs ms N 0 (if gtM (fun t => m (3 + r) (i + t)) n 0 (m 221) = true then nI 64 else nI 0) x0 (by omega)
            have hb0 : jm_K 10 md_X2_become [.ref 208, .ref 200] (jm_mk m) = some (none, jm_mk (wrI m 208 (becI (vwI m 208) (vwI m 200)))) := by
              have := k_bec (d := 9) (m := m) (x := vwI m 208)
              rwa [wrI_self] at this
            have hc : jm_K 11 md_X4_barring [.ref 207, .ref (3 + r), .int (nI i), .int (nI n)] (jm_mk m) = some (some (.int (orL (brF (m 221) s (fun t => m (3 + r) (i + t)) n) N 0 (if gtM (fun t => m (3 + r) (i + t)) n 0 (m 221) = true then nI 64 else nI 0))), jm_mk (wrI m 208 x1)) := by
              show jm_R 11 md_X4_barring 0 [.ref 207, .ref (3 + r), .int (nI i), .int (nI n), .null, .null] [] _ = _
              rw [← e1]
              by_cases z : gtM (fun t => m (3 + r) (i + t)) n 0 (m 221) = true
              · rw [if_pos z] at e0
                simp only [e_X4_barring_0, e_X4_barring_1, e_X4_barring_4, e_X4_barring_5, e_X4_barring_8, e_X4_barring_11, e_X4_barring_12, e_X4_barring_13, e_X4_barring_14, e_X4_barring_15, e_X4_barring_18, e_X4_barring_21, e_X4_barring_23, e_X4_barring_26, e_X4_barring_27, e_X4_barring_29, e_X4_barring_30, e_X4_barring_34, e_X4_barring_35, e_X4_barring_38, e_X4_barring_41, e_X4_barring_44, e_X4_barring_45, e_X4_barring_48, e_X4_barring_50, e_X4_barring_53, e_X4_barring_56, e_X4_barring_59, e_X4_barring_60, e_X4_barring_63, e_X4_barring_64, e_X4_barring_67, e_X4_barring_70, e_X4_barring_71, e_X4_barring_74, e_X4_barring_75, e_X4_barring_78, e_X4_barring_79, e_X4_barring_81, e_X4_barring_82, e_X4_barring_83, e_X4_barring_84, e_X4_barring_85, e_X4_barring_88, e_X4_barring_89, e_X4_barring_90, e_X4_barring_91, e_X4_barring_92, e_X4_barring_95, e_X4_barring_98, e_X4_barring_100, e_X4_barring_101, e_X4_barring_103, e_X4_barring_104, e_X4_barring_105, e_X4_barring_107, e_X4_barring_110, e_X4_barring_113, e_X4_barring_115, hb0, e0, jm_bd_v, jm_bd_0, bv1, if_false, if_true, not_false_eq_true, not_true_eq_false, z]
              · rw [if_neg z] at e0
                simp only [e_X4_barring_0, e_X4_barring_1, e_X4_barring_4, e_X4_barring_5, e_X4_barring_8, e_X4_barring_11, e_X4_barring_12, e_X4_barring_13, e_X4_barring_14, e_X4_barring_15, e_X4_barring_18, e_X4_barring_21, e_X4_barring_23, e_X4_barring_26, e_X4_barring_27, e_X4_barring_29, e_X4_barring_30, e_X4_barring_34, e_X4_barring_35, e_X4_barring_38, e_X4_barring_41, e_X4_barring_44, e_X4_barring_45, e_X4_barring_48, e_X4_barring_50, e_X4_barring_53, e_X4_barring_56, e_X4_barring_59, e_X4_barring_60, e_X4_barring_63, e_X4_barring_64, e_X4_barring_67, e_X4_barring_70, e_X4_barring_71, e_X4_barring_74, e_X4_barring_75, e_X4_barring_78, e_X4_barring_79, e_X4_barring_81, e_X4_barring_82, e_X4_barring_83, e_X4_barring_84, e_X4_barring_85, e_X4_barring_88, e_X4_barring_89, e_X4_barring_90, e_X4_barring_91, e_X4_barring_92, e_X4_barring_95, e_X4_barring_98, e_X4_barring_100, e_X4_barring_101, e_X4_barring_103, e_X4_barring_104, e_X4_barring_105, e_X4_barring_107, e_X4_barring_110, e_X4_barring_113, e_X4_barring_115, hb0, e0, jm_bd_v, jm_bd_0, bv1, if_false, if_true, not_false_eq_true, not_true_eq_false, z, Bool.false_eq_true]
            refine Api.tst hR (r := .int (orL (brF (m 221) s (fun t => m (3 + r) (i + t)) n) N 0 (if gtM (fun t => m (3 + r) (i + t)) n 0 (m 221) = true then nI 64 else nI 0))) (v := nI 0) (x := x1) ?_ (fun m1 hm => ?_)
            · show jm_R 12 md_X6_barred 0 [.ref 0, .int (nI r), .int (nI i), .int (nI n)] [] _ = _
              simp only [e_X6_barred_0, e_X6_barred_1, e_X6_barred_4, e_X6_barred_7, e_X6_barred_10, e_X6_barred_12, e_X6_barred_13, e_X6_barred_14, e_X6_barred_17, e_X6_barred_20, e_X6_barred_21, e_X6_barred_22, e_X6_barred_24, e_X6_barred_27, e_X6_barred_30, e_X6_barred_32, e_X6_barred_33, e_X6_barred_34, e_X6_barred_37, e_X6_barred_38, e_X6_barred_41, e_X6_barred_44, e_X6_barred_45, e_X6_barred_46, e_X6_barred_49, e_X6_barred_50, e_X6_barred_51, e_X6_barred_54, e_X6_barred_55, e_X6_barred_56, e_X6_barred_57, e_X6_barred_60, e_X6_barred_63, e_X6_barred_64, e_X6_barred_65, e_X6_barred_68, e_X6_barred_69, e_X6_barred_70, e_X6_barred_71, e_X6_barred_74, e_X6_barred_75, e_X6_barred_78, e_X6_barred_81, e_X6_barred_82, e_X6_barred_83, e_X6_barred_84, e_X6_barred_85, e_X6_barred_88, e_X6_barred_91, k_X2_hasBoat hI, k_X2_stands hI, k_X2_hasCell hI, c6, c5, k_X6_within, jm_bd_v, jm_bd_0, bv1, if_false, if_true, not_false_eq_true, not_true_eq_false, hst, k_X3_isRow, k_X3_isMissing h8, if_pos hr, if_pos hn, if_neg ea, k_hasP h8 h5 h2 hin, h8, hc, k_X6_fine]
            · have gz : GN C N (vwI m 200) (cp44 (m 221) (m 226)) := g.congr (fun i hi => cp44_lt hi)
              have z6 : cp44 (m 221) (m 226) 6 = nI s := by rw [cp44_lt (by decide)]; exact ms'
              have e220 : m1 220 = m 220 := hm 220 (by decide) (by decide)
              have ef : ∀ t, 0 ≤ t → t < 0 + n → m1 220 (40 * r + i + t) = m (3 + r) (i + t) := fun t _ ht => by
                rw [e220, h7 (i + t) (by omega)]
                congr 1
                omega
              obtain ⟨y0, f0⟩ := k_X7_isSo (d := 7) (m := m1) (z := cp44 (m 221) (m 226)) (A := 40 * r + i) (n := n) (by omega) (by omega) g
              have eg : gtM (fun t => m1 220 (40 * r + i + t)) n 0 (m 221) = gtM (fun t => m (3 + r) (i + t)) n 0 (m 221) := gtM_x n 0 g g ef
              rw [eg] at f0
              obtain ⟨y2, e2, e3⟩ := lp_X7_barred (m := m1) (r := r) (i := i) (n := n) h8 (by omega) gz hs z6 N 0 (if gtM (fun t => m (3 + r) (i + t)) n 0 (m 221) = true then nI 64 else nI 0) (nI 0) (cp44 (cp44 (m 221) (m 226)) y0) (fun j hj => cp44_lt hj) (by omega)
              have eo : orL (brF (cp44 (m 221) (m 226)) s (fun t => m1 220 (40 * r + i + t)) n) N 0 (if gtM (fun t => m (3 + r) (i + t)) n 0 (m 221) = true then nI 64 else nI 0) = orL (brF (m 221) s (fun t => m (3 + r) (i + t)) n) N 0 (if gtM (fun t => m (3 + r) (i + t)) n 0 (m 221) = true then nI 64 else nI 0) := orL_congr (fun b hb1 hb2 => by
                have hp := pow_le hN6
                have hc := p2_lt (show b < N by omega) hN6
                have hsa : anN s (2 ^ b) < 2 ^ N := by have := an_le (show s < 64 by omega) hc; omega
                unfold brF
                rw [gtM_x n 0 (gz.snt hsa) (g.snt hsa) ef])
              rw [eo] at e2
              refine ⟨cp44 (m 221) (m 226), y2, ?_, fun j hj => by rw [e3 j hj, cp44_lt hj]⟩
              have e5 : wrA (wrA m1 226 (m 226)) 221 (m 221) 217 4 = m 217 4 := by rw [wrA_ne (by decide), wrA_ne (by decide), hm 217 (by decide) (by decide)]
              have kl := k_lacks0 (d := 10) (m := wrA (wrA m1 226 (m 226)) 221 (m 221)) h8 (by rw [wrA_ne (by decide), wrA_ne (by decide), hm 219 (by decide) (by decide)]; exact h6) h2 (show n ≤ 40 by omega) hp
              show jm_R 12 md_X7_barred 0 [.ref 217, .int (nI r), .int (nI i), .int (nI n), .null, .null, .null] [] _ = _
              rw [← e2]
              by_cases z : gtM (fun t => m (3 + r) (i + t)) n 0 (m 221) = true
              · rw [if_pos z] at f0
                simp only [e_X7_barred_0, e_X7_barred_1, e_X7_barred_4, e_X7_barred_7, e_X7_barred_9, e_X7_barred_10, e_X7_barred_11, e_X7_barred_14, e_X7_barred_17, e_X7_barred_18, e_X7_barred_19, e_X7_barred_20, e_X7_barred_23, e_X7_barred_26, e_X7_barred_29, e_X7_barred_31, e_X7_barred_34, e_X7_barred_35, e_X7_barred_36, e_X7_barred_37, e_X7_barred_38, e_X7_barred_41, e_X7_barred_43, e_X7_barred_45, e_X7_barred_48, e_X7_barred_50, e_X7_barred_51, e_X7_barred_52, e_X7_barred_55, e_X7_barred_56, e_X7_barred_58, e_X7_barred_59, e_X7_barred_60, e_X7_barred_61, e_X7_barred_62, e_X7_barred_63, e_X7_barred_66, e_X7_barred_69, e_X7_barred_71, e_X7_barred_74, e_X7_barred_75, e_X7_barred_77, e_X7_barred_78, e_X7_barred_82, e_X7_barred_83, e_X7_barred_86, e_X7_barred_87, e_X7_barred_88, e_X7_barred_91, e_X7_barred_92, e_X7_barred_95, e_X7_barred_97, e_X7_barred_98, e_X7_barred_100, e_X7_barred_103, e_X7_barred_106, e_X7_barred_107, e_X7_barred_110, e_X7_barred_112, e_X7_barred_113, e_X7_barred_114, e_X7_barred_115, e_X7_barred_117, e_X7_barred_118, e_X7_barred_119, e_X7_barred_120, e_X7_barred_122, e_X7_barred_123, e_X7_barred_125, e_X7_barred_126, e_X7_barred_127, e_X7_barred_128, e_X7_barred_129, e_X7_barred_130, e_X7_barred_133, e_X7_barred_136, e_X7_barred_137, e_X7_barred_139, e_X7_barred_140, e_X7_barred_143, e_X7_barred_144, e_X7_barred_145, e_X7_barred_147, e_X7_barred_150, e_X7_barred_153, e_X7_barred_154, e_X7_barred_156, e_X7_barred_159, isRow7, in_1_12, jm_bd_v, jm_bd_0, bv1, if_false, if_true, not_false_eq_true, not_true_eq_false, e5, hth, if_pos hr, if_pos hn, kl, f0p, k_X7_putAside, nI_mulN, nI_add, f0, z]
              · rw [if_neg z] at f0
                simp only [e_X7_barred_0, e_X7_barred_1, e_X7_barred_4, e_X7_barred_7, e_X7_barred_9, e_X7_barred_10, e_X7_barred_11, e_X7_barred_14, e_X7_barred_17, e_X7_barred_18, e_X7_barred_19, e_X7_barred_20, e_X7_barred_23, e_X7_barred_26, e_X7_barred_29, e_X7_barred_31, e_X7_barred_34, e_X7_barred_35, e_X7_barred_36, e_X7_barred_37, e_X7_barred_38, e_X7_barred_41, e_X7_barred_43, e_X7_barred_45, e_X7_barred_48, e_X7_barred_50, e_X7_barred_51, e_X7_barred_52, e_X7_barred_55, e_X7_barred_56, e_X7_barred_58, e_X7_barred_59, e_X7_barred_60, e_X7_barred_61, e_X7_barred_62, e_X7_barred_63, e_X7_barred_66, e_X7_barred_69, e_X7_barred_71, e_X7_barred_74, e_X7_barred_75, e_X7_barred_77, e_X7_barred_78, e_X7_barred_82, e_X7_barred_83, e_X7_barred_86, e_X7_barred_87, e_X7_barred_88, e_X7_barred_91, e_X7_barred_92, e_X7_barred_95, e_X7_barred_97, e_X7_barred_98, e_X7_barred_100, e_X7_barred_103, e_X7_barred_106, e_X7_barred_107, e_X7_barred_110, e_X7_barred_112, e_X7_barred_113, e_X7_barred_114, e_X7_barred_115, e_X7_barred_117, e_X7_barred_118, e_X7_barred_119, e_X7_barred_120, e_X7_barred_122, e_X7_barred_123, e_X7_barred_125, e_X7_barred_126, e_X7_barred_127, e_X7_barred_128, e_X7_barred_129, e_X7_barred_130, e_X7_barred_133, e_X7_barred_136, e_X7_barred_137, e_X7_barred_139, e_X7_barred_140, e_X7_barred_143, e_X7_barred_144, e_X7_barred_145, e_X7_barred_147, e_X7_barred_150, e_X7_barred_153, e_X7_barred_154, e_X7_barred_156, e_X7_barred_159, isRow7, in_1_12, jm_bd_v, jm_bd_0, bv1, if_false, if_true, not_false_eq_true, not_true_eq_false, e5, hth, if_pos hr, if_pos hn, kl, f0p, k_X7_putAside, nI_mulN, nI_add, f0, z, Bool.false_eq_true]
          · refine Api.fnd hR (nI 2) (r := .int (-1000010 - nI 2)) ?_ ?_
            · show jm_R 12 md_X6_barred 0 [.ref 0, .int (nI r), .int i, .int (nI n)] [] _ = _
              simp only [e_X6_barred_0, e_X6_barred_1, e_X6_barred_4, e_X6_barred_7, e_X6_barred_10, e_X6_barred_12, e_X6_barred_13, e_X6_barred_14, e_X6_barred_17, e_X6_barred_20, e_X6_barred_21, e_X6_barred_22, e_X6_barred_24, e_X6_barred_27, e_X6_barred_30, e_X6_barred_32, e_X6_barred_33, e_X6_barred_34, e_X6_barred_37, e_X6_barred_38, e_X6_barred_41, e_X6_barred_44, e_X6_barred_45, e_X6_barred_46, e_X6_barred_49, e_X6_barred_50, e_X6_barred_51, e_X6_barred_54, e_X6_barred_55, e_X6_barred_56, e_X6_barred_57, e_X6_barred_60, e_X6_barred_63, e_X6_barred_64, e_X6_barred_65, e_X6_barred_68, e_X6_barred_69, e_X6_barred_70, e_X6_barred_71, e_X6_barred_74, e_X6_barred_75, e_X6_barred_78, e_X6_barred_81, e_X6_barred_82, e_X6_barred_83, e_X6_barred_84, e_X6_barred_85, e_X6_barred_88, e_X6_barred_91, k_X2_hasBoat hI, k_X2_stands hI, k_X2_hasCell hI, c6, c5, k_X6_within, jm_bd_v, jm_bd_0, bv1, if_false, if_true, not_false_eq_true, not_true_eq_false, hst, k_X3_isRow, k_X3_isMissing h8, if_pos hr, if_pos hn, if_neg ea, k_hasN h8 h5 h2 hp, k_X6_finding]
            · show jm_R 12 md_X7_barred 0 [.ref 217, .int (nI r), .int i, .int (nI n), .null, .null, .null] [] _ = _
              have kl := k_lacks2 (d := 10) (i := i) (n := n) (m := jm_up m 0 7 (nI 2)) h8 (by rw [jupr (by decide)]; exact h6) h2 (by omega) hp
              simp only [e_X7_barred_0, e_X7_barred_1, e_X7_barred_4, e_X7_barred_7, e_X7_barred_9, e_X7_barred_10, e_X7_barred_11, e_X7_barred_14, e_X7_barred_17, e_X7_barred_18, e_X7_barred_19, e_X7_barred_20, e_X7_barred_23, e_X7_barred_26, e_X7_barred_29, e_X7_barred_31, e_X7_barred_34, e_X7_barred_35, e_X7_barred_36, e_X7_barred_37, e_X7_barred_38, e_X7_barred_41, e_X7_barred_43, e_X7_barred_45, e_X7_barred_48, e_X7_barred_50, e_X7_barred_51, e_X7_barred_52, e_X7_barred_55, e_X7_barred_56, e_X7_barred_58, e_X7_barred_59, e_X7_barred_60, e_X7_barred_61, e_X7_barred_62, e_X7_barred_63, e_X7_barred_66, e_X7_barred_69, e_X7_barred_71, e_X7_barred_74, e_X7_barred_75, e_X7_barred_77, e_X7_barred_78, e_X7_barred_82, e_X7_barred_83, e_X7_barred_86, e_X7_barred_87, e_X7_barred_88, e_X7_barred_91, e_X7_barred_92, e_X7_barred_95, e_X7_barred_97, e_X7_barred_98, e_X7_barred_100, e_X7_barred_103, e_X7_barred_106, e_X7_barred_107, e_X7_barred_110, e_X7_barred_112, e_X7_barred_113, e_X7_barred_114, e_X7_barred_115, e_X7_barred_117, e_X7_barred_118, e_X7_barred_119, e_X7_barred_120, e_X7_barred_122, e_X7_barred_123, e_X7_barred_125, e_X7_barred_126, e_X7_barred_127, e_X7_barred_128, e_X7_barred_129, e_X7_barred_130, e_X7_barred_133, e_X7_barred_136, e_X7_barred_137, e_X7_barred_139, e_X7_barred_140, e_X7_barred_143, e_X7_barred_144, e_X7_barred_145, e_X7_barred_147, e_X7_barred_150, e_X7_barred_153, e_X7_barred_154, e_X7_barred_156, e_X7_barred_159, isRow7, in_1_12, jm_bd_v, jm_bd_0, bv1, if_false, if_true, not_false_eq_true, not_true_eq_false, th', hth, if_pos hr, if_pos hn, kl, f2p]
      · refine Api.bad hR (r := .int (-1000001)) ?_ ?_
        · show jm_R 12 md_X6_barred 0 [.ref 0, .int r, .int i, .int n] [] _ = _
          simp only [e_X6_barred_0, e_X6_barred_1, e_X6_barred_4, e_X6_barred_7, e_X6_barred_10, e_X6_barred_12, e_X6_barred_13, e_X6_barred_14, e_X6_barred_17, e_X6_barred_20, e_X6_barred_21, e_X6_barred_22, e_X6_barred_24, e_X6_barred_27, e_X6_barred_30, e_X6_barred_32, e_X6_barred_33, e_X6_barred_34, e_X6_barred_37, e_X6_barred_38, e_X6_barred_41, e_X6_barred_44, e_X6_barred_45, e_X6_barred_46, e_X6_barred_49, e_X6_barred_50, e_X6_barred_51, e_X6_barred_54, e_X6_barred_55, e_X6_barred_56, e_X6_barred_57, e_X6_barred_60, e_X6_barred_63, e_X6_barred_64, e_X6_barred_65, e_X6_barred_68, e_X6_barred_69, e_X6_barred_70, e_X6_barred_71, e_X6_barred_74, e_X6_barred_75, e_X6_barred_78, e_X6_barred_81, e_X6_barred_82, e_X6_barred_83, e_X6_barred_84, e_X6_barred_85, e_X6_barred_88, e_X6_barred_91, k_X2_hasBoat hI, k_X2_stands hI, k_X2_hasCell hI, c6, c5, k_X6_within, jm_bd_v, jm_bd_0, bv1, if_false, if_true, not_false_eq_true, not_true_eq_false, hst, k_X3_isRow, if_pos hr, if_neg hn]
        · show jm_R 12 md_X7_barred 0 [.ref 217, .int r, .int i, .int n, .null, .null, .null] [] _ = _
          simp only [e_X7_barred_0, e_X7_barred_1, e_X7_barred_4, e_X7_barred_7, e_X7_barred_9, e_X7_barred_10, e_X7_barred_11, e_X7_barred_14, e_X7_barred_17, e_X7_barred_18, e_X7_barred_19, e_X7_barred_20, e_X7_barred_23, e_X7_barred_26, e_X7_barred_29, e_X7_barred_31, e_X7_barred_34, e_X7_barred_35, e_X7_barred_36, e_X7_barred_37, e_X7_barred_38, e_X7_barred_41, e_X7_barred_43, e_X7_barred_45, e_X7_barred_48, e_X7_barred_50, e_X7_barred_51, e_X7_barred_52, e_X7_barred_55, e_X7_barred_56, e_X7_barred_58, e_X7_barred_59, e_X7_barred_60, e_X7_barred_61, e_X7_barred_62, e_X7_barred_63, e_X7_barred_66, e_X7_barred_69, e_X7_barred_71, e_X7_barred_74, e_X7_barred_75, e_X7_barred_77, e_X7_barred_78, e_X7_barred_82, e_X7_barred_83, e_X7_barred_86, e_X7_barred_87, e_X7_barred_88, e_X7_barred_91, e_X7_barred_92, e_X7_barred_95, e_X7_barred_97, e_X7_barred_98, e_X7_barred_100, e_X7_barred_103, e_X7_barred_106, e_X7_barred_107, e_X7_barred_110, e_X7_barred_112, e_X7_barred_113, e_X7_barred_114, e_X7_barred_115, e_X7_barred_117, e_X7_barred_118, e_X7_barred_119, e_X7_barred_120, e_X7_barred_122, e_X7_barred_123, e_X7_barred_125, e_X7_barred_126, e_X7_barred_127, e_X7_barred_128, e_X7_barred_129, e_X7_barred_130, e_X7_barred_133, e_X7_barred_136, e_X7_barred_137, e_X7_barred_139, e_X7_barred_140, e_X7_barred_143, e_X7_barred_144, e_X7_barred_145, e_X7_barred_147, e_X7_barred_150, e_X7_barred_153, e_X7_barred_154, e_X7_barred_156, e_X7_barred_159, isRow7, in_1_12, jm_bd_v, jm_bd_0, bv1, if_false, if_true, not_false_eq_true, not_true_eq_false, hth, if_pos hr, if_neg hn, f3p]
    · refine Api.bad hR (r := .int (-1000001)) ?_ ?_
      · show jm_R 12 md_X6_barred 0 [.ref 0, .int r, .int i, .int n] [] _ = _
        simp only [e_X6_barred_0, e_X6_barred_1, e_X6_barred_4, e_X6_barred_7, e_X6_barred_10, e_X6_barred_12, e_X6_barred_13, e_X6_barred_14, e_X6_barred_17, e_X6_barred_20, e_X6_barred_21, e_X6_barred_22, e_X6_barred_24, e_X6_barred_27, e_X6_barred_30, e_X6_barred_32, e_X6_barred_33, e_X6_barred_34, e_X6_barred_37, e_X6_barred_38, e_X6_barred_41, e_X6_barred_44, e_X6_barred_45, e_X6_barred_46, e_X6_barred_49, e_X6_barred_50, e_X6_barred_51, e_X6_barred_54, e_X6_barred_55, e_X6_barred_56, e_X6_barred_57, e_X6_barred_60, e_X6_barred_63, e_X6_barred_64, e_X6_barred_65, e_X6_barred_68, e_X6_barred_69, e_X6_barred_70, e_X6_barred_71, e_X6_barred_74, e_X6_barred_75, e_X6_barred_78, e_X6_barred_81, e_X6_barred_82, e_X6_barred_83, e_X6_barred_84, e_X6_barred_85, e_X6_barred_88, e_X6_barred_91, k_X2_hasBoat hI, k_X2_stands hI, k_X2_hasCell hI, c6, c5, k_X6_within, jm_bd_v, jm_bd_0, bv1, if_false, if_true, not_false_eq_true, not_true_eq_false, hst, k_X3_isRow, if_neg hr]
      · show jm_R 12 md_X7_barred 0 [.ref 217, .int r, .int i, .int n, .null, .null, .null] [] _ = _
        simp only [e_X7_barred_0, e_X7_barred_1, e_X7_barred_4, e_X7_barred_7, e_X7_barred_9, e_X7_barred_10, e_X7_barred_11, e_X7_barred_14, e_X7_barred_17, e_X7_barred_18, e_X7_barred_19, e_X7_barred_20, e_X7_barred_23, e_X7_barred_26, e_X7_barred_29, e_X7_barred_31, e_X7_barred_34, e_X7_barred_35, e_X7_barred_36, e_X7_barred_37, e_X7_barred_38, e_X7_barred_41, e_X7_barred_43, e_X7_barred_45, e_X7_barred_48, e_X7_barred_50, e_X7_barred_51, e_X7_barred_52, e_X7_barred_55, e_X7_barred_56, e_X7_barred_58, e_X7_barred_59, e_X7_barred_60, e_X7_barred_61, e_X7_barred_62, e_X7_barred_63, e_X7_barred_66, e_X7_barred_69, e_X7_barred_71, e_X7_barred_74, e_X7_barred_75, e_X7_barred_77, e_X7_barred_78, e_X7_barred_82, e_X7_barred_83, e_X7_barred_86, e_X7_barred_87, e_X7_barred_88, e_X7_barred_91, e_X7_barred_92, e_X7_barred_95, e_X7_barred_97, e_X7_barred_98, e_X7_barred_100, e_X7_barred_103, e_X7_barred_106, e_X7_barred_107, e_X7_barred_110, e_X7_barred_112, e_X7_barred_113, e_X7_barred_114, e_X7_barred_115, e_X7_barred_117, e_X7_barred_118, e_X7_barred_119, e_X7_barred_120, e_X7_barred_122, e_X7_barred_123, e_X7_barred_125, e_X7_barred_126, e_X7_barred_127, e_X7_barred_128, e_X7_barred_129, e_X7_barred_130, e_X7_barred_133, e_X7_barred_136, e_X7_barred_137, e_X7_barred_139, e_X7_barred_140, e_X7_barred_143, e_X7_barred_144, e_X7_barred_145, e_X7_barred_147, e_X7_barred_150, e_X7_barred_153, e_X7_barred_154, e_X7_barred_156, e_X7_barred_159, isRow7, jm_bd_v, jm_bd_0, bv1, if_false, if_true, not_false_eq_true, not_true_eq_false, hth, if_neg hr, f3p]
