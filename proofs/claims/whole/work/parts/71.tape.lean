/-! the tape, read by the class -/
abbrev dg (B : Nat → Nat) (k p : Nat) : Prop := p < k ∧ 48 ≤ B p ∧ B p ≤ 57
def nmL (B : Nat → Nat) (k p : Nat) : Nat := if p < k ∧ 48 ≤ B p ∧ B p ≤ 57 then (if p + 1 < k ∧ 48 ≤ B (p + 1) ∧ B (p + 1) ≤ 57 then (if p + 2 < k ∧ 48 ≤ B (p + 2) ∧ B (p + 2) ≤ 57 then 3 else 2) else 1) else 0
def nmV (B : Nat → Nat) (k p : Nat) : Nat := if nmL B k p = 1 then B p - 48 else 10 * (B p - 48) + (B (p + 1) - 48)
theorem nmL_0 {B : Nat → Nat} {k p : Nat} (h : ¬ dg B k p) : nmL B k p = 0 := if_neg h
theorem nmL_1 {B : Nat → Nat} {k p : Nat} (h : dg B k p) (h1 : ¬ dg B k (p + 1)) : nmL B k p = 1 := by
  unfold nmL
  rw [if_pos h, if_neg h1]
theorem nmL_2 {B : Nat → Nat} {k p : Nat} (h : dg B k p) (h1 : dg B k (p + 1)) (h2 : ¬ dg B k (p + 2)) : nmL B k p = 2 := by
  unfold nmL
  rw [if_pos h, if_pos h1, if_neg h2]
theorem nmL_3 {B : Nat → Nat} {k p : Nat} (h : dg B k p) (h1 : dg B k (p + 1)) (h2 : dg B k (p + 2)) : nmL B k p = 3 := by
  unfold nmL
  rw [if_pos h, if_pos h1, if_pos h2]
/-- no digits, one, two, more -/
theorem nm_cases (B : Nat → Nat) (k p : Nat) : (¬ dg B k p ∧ nmL B k p = 0) ∨ (dg B k p ∧ ¬ dg B k (p + 1) ∧ nmL B k p = 1 ∧ nmV B k p = B p - 48) ∨ (dg B k p ∧ dg B k (p + 1) ∧ ¬ dg B k (p + 2) ∧ nmL B k p = 2 ∧ nmV B k p = 10 * (B p - 48) + (B (p + 1) - 48)) ∨ (dg B k p ∧ dg B k (p + 1) ∧ dg B k (p + 2) ∧ nmL B k p = 3) := by
  by_cases h : dg B k p
  · by_cases h1 : dg B k (p + 1)
    · by_cases h2 : dg B k (p + 2)
      · exact Or.inr (Or.inr (Or.inr ⟨h, h1, h2, nmL_3 h h1 h2⟩))
      · refine Or.inr (Or.inr (Or.inl ⟨h, h1, h2, nmL_2 h h1 h2, ?_⟩))
        unfold nmV
        rw [nmL_2 h h1 h2, if_neg (by decide)]
    · refine Or.inr (Or.inl ⟨h, h1, nmL_1 h h1, ?_⟩)
      unfold nmV
      rw [nmL_1 h h1, if_pos rfl]
  · exact Or.inl ⟨h, nmL_0 h⟩
theorem nm_le {B : Nat → Nat} {k p : Nat} (h : nmL B k p = 1 ∨ nmL B k p = 2) : p + nmL B k p ≤ k ∧ nmV B k p < 100 := by
  rcases nm_cases B k p with ⟨-, a⟩ | ⟨b, -, a, c⟩ | ⟨b, b1, -, a, c⟩ | ⟨-, -, -, a⟩
  · omega
  · have := b.1; have := b.2.2; rw [a, c]; omega
  · have := b1.1; have := b1.2.2; have := b.2.2; rw [a, c]; omega
  · omega
/-- the tape's own cell -/
def ct (m : Nat → Nat → Int32) (a l p : Int32) : Nat → Nat → Int32 := fun r j => if r = 13 then (if j = 3 then a else if j = 2 then l else if j = 4 then p else m 13 j) else m r j
section CT
variable {m : Nat → Nat → Int32} {a l p v : Int32}
theorem ct_3 : ct m a l p 13 3 = a := rfl
theorem ct_2 : ct m a l p 13 2 = l := rfl
theorem ct_4 : ct m a l p 13 4 = p := rfl
theorem ct_1 : ct m a l p 13 1 = m 13 1 := rfl
theorem ct_o {r : Nat} (h : r ≠ 13) : ct m a l p r = m r := by
  funext j
  exact if_neg h
theorem ct_u3 : jm_up (ct m a l p) 13 3 v = ct m v l p := by
  funext r j
  unfold jm_up ct
  by_cases h : r = 13
  · by_cases h3 : j = 3 <;> simp [h, h3]
  · simp [h]
theorem ct_u2 : jm_up (ct m a l p) 13 2 v = ct m a v p := by
  funext r j
  unfold jm_up ct
  by_cases h : r = 13
  · by_cases h3 : j = 2
    · simp [h, h3]
    · simp [h, h3]
  · simp [h]
theorem ct_u4 : jm_up (ct m a l p) 13 4 v = ct m a l v := by
  funext r j
  unfold jm_up ct
  by_cases h : r = 13
  · by_cases h3 : j = 4
    · simp [h, h3]
    · simp [h, h3]
  · simp [h]
end CT
def cs (m : Nat → Nat → Int32) (a l p : Int32) (x : Nat → Nat → Int32) : Nat → Nat → Int32 := wrI (ct m a l p) 208 x
theorem wrI_jup {m x : Nat → Nat → Int32} {r j : Nat} {v : Int32} (h : ¬ (208 ≤ r ∧ r < 215)) : jm_up (wrI m 208 x) r j v = wrI (jm_up m r j v) 208 x := by
  funext r' j'
  unfold jm_up wrI
  by_cases q : 208 ≤ r' ∧ r' < 208 + 7
  · have : ¬ (r' = r ∧ j' = j) := fun e => h (by omega)
    simp [q, this]
  · simp [q]
section CS
variable {m x : Nat → Nat → Int32} {a l p v : Int32}
theorem cs_r {r : Nat} (h : ¬ (208 ≤ r ∧ r < 215)) (h2 : r ≠ 13) : cs m a l p x r = m r := by
  unfold cs
  rw [wrI_o h, ct_o h2]
theorem cs_3 : cs m a l p x 13 3 = a := by unfold cs; rw [wrI_o (by decide)]; rfl
theorem cs_2 : cs m a l p x 13 2 = l := by unfold cs; rw [wrI_o (by decide)]; rfl
theorem cs_4 : cs m a l p x 13 4 = p := by unfold cs; rw [wrI_o (by decide)]; rfl
theorem cs_1 : cs m a l p x 13 1 = m 13 1 := by unfold cs; rw [wrI_o (by decide)]; rfl
theorem cs_14 {j : Nat} : cs m a l p x 14 j = m 14 j := by rw [cs_r (by decide) (by decide)]
theorem cs_u3 : jm_up (cs m a l p x) 13 3 v = cs m v l p x := by unfold cs; rw [wrI_jup (by decide), ct_u3]
theorem cs_u2 : jm_up (cs m a l p x) 13 2 v = cs m a v p x := by unfold cs; rw [wrI_jup (by decide), ct_u2]
theorem cs_u4 : jm_up (cs m a l p x) 13 4 v = cs m a l v x := by unfold cs; rw [wrI_jup (by decide), ct_u4]
theorem cs_x0 {j : Nat} : cs m a l p x 208 j = x 0 j := wrI_0
theorem cs_ux0 {j : Nat} : jm_up (cs m a l p x) 208 j v = cs m a l p (jm_up x 0 j v) := wrI_u0
end CS
/-- what the class's tape holds -/
def CT (m : Nat → Nat → Int32) (k : Nat) (B : Nat → Nat) : Prop := m 13 1 = nI k ∧ k ≤ 120 ∧ (∀ i, i < k → m 14 i = nI (B i)) ∧ ∀ i, i < k → B i < 256
def nxt (B : Nat → Nat) (k p : Nat) : Int32 := if p < k then nI (B p) else -1
section TP
variable {d k p : Nat} {B : Nat → Nat} {m x : Nat → Nat → Int32} {l q : Int32}
theorem nxt_eq {c : Nat} (hB : ∀ i, i < k → B i < 256) (hc : c < 256) : (nxt B k p = nI c) = (p < k ∧ B p = c) := by
  unfold nxt
  by_cases h : p < k
  · rw [if_pos h]
    have := hB p h
    exact propext ⟨fun e => ⟨h, (nI_eq (by omega) (by omega)).mp e⟩, fun e => by rw [e.2]⟩
  · rw [if_neg h]
    exact propext ⟨fun e => absurd e.symm (nI_m1 (by omega)), fun e => absurd e.1 h⟩
theorem nxt_m1 (hB : ∀ i, i < k → B i < 256) : (nxt B k p = -1) = ¬ p < k := by
  unfold nxt
  by_cases h : p < k
  · rw [if_pos h]
    have := hB p h
    exact propext ⟨fun e => absurd e (nI_m1 (by omega)), fun e => absurd h e⟩
  · rw [if_neg h]
    exact propext ⟨fun _ => h, fun _ => rfl⟩
theorem k_next (hT : CT m k B) (hp : p ≤ k) : jm_K d md_X5_next [.ref 13] (jm_mk (cs m (nI p) l q x)) = some (some (.int (nxt B k p)), jm_mk (cs m (nI p) l q x)) := by
  obtain ⟨h1, h2, h3, h4⟩ := hT
  show jm_R d md_X5_next 0 [.ref 13] [] _ = _
  unfold nxt
  by_cases h : p < k
  · have g1 : ¬ nI k ≤ nI p := nI_ge h (by omega)
    have g2 : p < 120 := by omega
    rw [if_pos h]
    simp only [e_X5_next_0, e_X5_next_1, e_X5_next_4, e_X5_next_5, e_X5_next_8, e_X5_next_11, e_X5_next_12, e_X5_next_15, e_X5_next_16, e_X5_next_19, e_X5_next_20, e_X5_next_23, e_X5_next_24, cs_3, cs_1, h1, g1, if_false, g2, cs_14, h3 p h]
  · have g1 : nI k ≤ nI p := nI_le (by omega) (by omega)
    rw [if_neg h]
    simp only [e_X5_next_0, e_X5_next_1, e_X5_next_4, e_X5_next_5, e_X5_next_8, e_X5_next_11, e_X5_next_12, e_X5_next_15, e_X5_next_16, e_X5_next_19, e_X5_next_20, e_X5_next_23, e_X5_next_24, cs_3, cs_1, h1, g1, if_true]
theorem k_refuse {a f : Int32} : jm_K d md_X5_refuse [.ref 13, .int f] (jm_mk (cs m a l q x)) = some (some (.int (nI 0)), jm_mk (cs m a f a x)) := by
  show jm_R d md_X5_refuse 0 [.ref 13, .int f] [] _ = _
  simp only [e_X5_refuse_0, e_X5_refuse_1, e_X5_refuse_2, e_X5_refuse_5, e_X5_refuse_6, e_X5_refuse_7, e_X5_refuse_10, e_X5_refuse_13, e_X5_refuse_14, cs_u2, cs_3, cs_u4, true_or, or_true]
theorem k_take_y (hT : CT m k B) {c : Nat} (h : p < k) (h2 : B p = c) : jm_K (d + 1) md_X5_take [.ref 13, .int (nI c)] (jm_mk (cs m (nI p) l q x)) = some (some (.int (nI 1)), jm_mk (cs m (nI (p + 1)) l q x)) := by
  have e : nxt B k p = nI c := by unfold nxt; rw [if_pos h, h2]
  show jm_R (d + 1) md_X5_take 0 [.ref 13, .int (nI c)] [] _ = _
  simp only [e_X5_take_0, e_X5_take_1, e_X5_take_4, e_X5_take_5, e_X5_take_8, e_X5_take_9, e_X5_take_10, e_X5_take_13, e_X5_take_14, e_X5_take_15, e_X5_take_16, e_X5_take_19, e_X5_take_20, e_X5_take_21, e_X5_take_24, e_X5_take_25, k_next hT (Nat.le_of_lt h), jm_bd_v, e, if_true, cs_3, nI_add, cs_u3, true_or, or_true]
theorem k_take_n (hT : CT m k B) {c : Nat} (hp : p ≤ k) (hc : c < 256) (h : ¬ (p < k ∧ B p = c)) : jm_K (d + 1) md_X5_take [.ref 13, .int (nI c)] (jm_mk (cs m (nI p) l q x)) = some (some (.int (nI 0)), jm_mk (cs m (nI p) (nI 1) (nI p) x)) := by
  have e : ¬ nxt B k p = nI c := by rw [nxt_eq hT.2.2.2 hc]; exact h
  show jm_R (d + 1) md_X5_take 0 [.ref 13, .int (nI c)] [] _ = _
  simp only [e_X5_take_0, e_X5_take_1, e_X5_take_4, e_X5_take_5, e_X5_take_8, e_X5_take_9, e_X5_take_10, e_X5_take_13, e_X5_take_14, e_X5_take_15, e_X5_take_16, e_X5_take_19, e_X5_take_20, e_X5_take_21, e_X5_take_24, e_X5_take_25, k_next hT hp, jm_bd_v, e, if_false, k_refuse, true_or, or_true]
theorem dg_if {b : Nat} (hb : b < 256) : (¬ nI b < nI 48 ∧ ¬ nI 57 < nI b) = (48 ≤ b ∧ b ≤ 57) := by
  rw [nI_ltI (by omega) (by omega), nI_ltI (by omega) (by omega)]
  exact propext ⟨fun h => by omega, fun h => by omega⟩
theorem nb_step (hT : CT m k B) {c v : Nat} {lo hi : Int32} {l5 : Value} (hc : c < 3) (hv : v < 1000) (h : dg B k (p + c)) : jm_R (d + 1) md_X5_number 8 [.ref 13, .int lo, .int hi, .int (nI (p + c)), .int (nI v), l5] [] (jm_mk (cs m (nI p) l q x)) = jm_R (d + 1) md_X5_number 8 [.ref 13, .int lo, .int hi, .int (nI (p + (c + 1))), .int (nI (10 * v + (B (p + c) - 48))), l5] [] (jm_mk (cs m (nI p) l q x)) := by
  obtain ⟨h1, h2, h3, h4⟩ := hT
  obtain ⟨a1, a2, a3⟩ := h
  have g1 : ¬ nI k ≤ nI (p + c) := nI_ge a1 (by omega)
  have g2 : p + c < 120 := by omega
  have g3 : ¬ nI 3 ≤ nI c := nI_ge hc (by omega)
  have e1 : nI (p + c) - nI p = nI c := by rw [nI_subN (by omega) (by omega)]; congr 1; omega
  have e2 : nI (v * 10 + B (p + c)) - nI 48 = nI (10 * v + (B (p + c) - 48)) := by rw [nI_subN (by omega) (by omega)]; congr 1; omega
  have gd : ¬ nI (B (p + c)) < nI 48 ∧ ¬ nI 57 < nI (B (p + c)) := by rw [dg_if (h4 _ a1)]; exact ⟨a2, a3⟩
  rw [e_X5_number_8]
  simp only [e_X5_number_0, e_X5_number_1, e_X5_number_4, e_X5_number_5, e_X5_number_6, e_X5_number_9, e_X5_number_10, e_X5_number_13, e_X5_number_16, e_X5_number_17, e_X5_number_20, e_X5_number_21, e_X5_number_22, e_X5_number_24, e_X5_number_26, e_X5_number_29, e_X5_number_32, e_X5_number_33, e_X5_number_34, e_X5_number_37, e_X5_number_38, e_X5_number_39, e_X5_number_42, e_X5_number_44, e_X5_number_46, e_X5_number_47, e_X5_number_48, e_X5_number_51, e_X5_number_52, e_X5_number_53, e_X5_number_54, e_X5_number_56, e_X5_number_57, e_X5_number_59, e_X5_number_62, e_X5_number_65, e_X5_number_66, e_X5_number_67, e_X5_number_70, e_X5_number_71, e_X5_number_72, e_X5_number_73, e_X5_number_76, e_X5_number_78, e_X5_number_80, e_X5_number_83, e_X5_number_85, e_X5_number_86, e_X5_number_87, e_X5_number_90, e_X5_number_93, e_X5_number_94, e_X5_number_96, e_X5_number_99, e_X5_number_100, e_X5_number_103, e_X5_number_104, e_X5_number_107, e_X5_number_108, e_X5_number_109, e_X5_number_110, e_X5_number_111, e_X5_number_112, e_X5_number_115, e_X5_number_117, cs_3, cs_1, h1, g1, if_false, g2, cs_14, h3 _ a1, k_X6_within, if_pos gd, jm_bd_v, bv1, e1, g3, nI_mulN, nI_add, e2, Nat.add_assoc]
theorem nb_stop (hT : CT m k B) {c v : Nat} {lo hi : Int32} {l5 : Value} (hp : p + c ≤ k) (h : ¬ dg B k (p + c) ∨ c = 3) : jm_R (d + 1) md_X5_number 8 [.ref 13, .int lo, .int hi, .int (nI (p + c)), .int (nI v), l5] [] (jm_mk (cs m (nI p) l q x)) = jm_R (d + 1) md_X5_number 65 [.ref 13, .int lo, .int hi, .int (nI (p + c)), .int (nI v), l5] [] (jm_mk (cs m (nI p) l q x)) := by
  obtain ⟨h1, h2, h3, h4⟩ := hT
  rw [e_X5_number_8]
  by_cases a1 : p + c < k
  · have g1 : ¬ nI k ≤ nI (p + c) := nI_ge a1 (by omega)
    have g2 : p + c < 120 := by omega
    by_cases gd : ¬ nI (B (p + c)) < nI 48 ∧ ¬ nI 57 < nI (B (p + c))
    · have hc : c = 3 := by
        rcases h with h | h
        · rw [dg_if (h4 _ a1)] at gd
          exact absurd ⟨a1, gd⟩ h
        · exact h
      have g3 : nI 3 ≤ nI c := nI_le (by omega) (by omega)
      have e1 : nI (p + c) - nI p = nI c := by rw [nI_subN (by omega) (by omega)]; congr 1; omega
      simp only [e_X5_number_0, e_X5_number_1, e_X5_number_4, e_X5_number_5, e_X5_number_6, e_X5_number_9, e_X5_number_10, e_X5_number_13, e_X5_number_16, e_X5_number_17, e_X5_number_20, e_X5_number_21, e_X5_number_22, e_X5_number_24, e_X5_number_26, e_X5_number_29, e_X5_number_32, e_X5_number_33, e_X5_number_34, e_X5_number_37, e_X5_number_38, e_X5_number_39, e_X5_number_42, e_X5_number_44, e_X5_number_46, e_X5_number_47, e_X5_number_48, e_X5_number_51, e_X5_number_52, e_X5_number_53, e_X5_number_54, e_X5_number_56, e_X5_number_57, e_X5_number_59, e_X5_number_62, e_X5_number_66, e_X5_number_67, e_X5_number_70, e_X5_number_71, e_X5_number_72, e_X5_number_73, e_X5_number_76, e_X5_number_78, e_X5_number_80, e_X5_number_83, e_X5_number_85, e_X5_number_86, e_X5_number_87, e_X5_number_90, e_X5_number_93, e_X5_number_94, e_X5_number_96, e_X5_number_99, e_X5_number_100, e_X5_number_103, e_X5_number_104, e_X5_number_107, e_X5_number_108, e_X5_number_109, e_X5_number_110, e_X5_number_111, e_X5_number_112, e_X5_number_115, e_X5_number_117, cs_3, cs_1, h1, g1, if_false, g2, cs_14, h3 _ a1, k_X6_within, if_pos gd, jm_bd_v, bv1, e1, g3, if_true]
    · simp only [e_X5_number_0, e_X5_number_1, e_X5_number_4, e_X5_number_5, e_X5_number_6, e_X5_number_9, e_X5_number_10, e_X5_number_13, e_X5_number_16, e_X5_number_17, e_X5_number_20, e_X5_number_21, e_X5_number_22, e_X5_number_24, e_X5_number_26, e_X5_number_29, e_X5_number_32, e_X5_number_33, e_X5_number_34, e_X5_number_37, e_X5_number_38, e_X5_number_39, e_X5_number_42, e_X5_number_44, e_X5_number_46, e_X5_number_47, e_X5_number_48, e_X5_number_51, e_X5_number_52, e_X5_number_53, e_X5_number_54, e_X5_number_56, e_X5_number_57, e_X5_number_59, e_X5_number_62, e_X5_number_66, e_X5_number_67, e_X5_number_70, e_X5_number_71, e_X5_number_72, e_X5_number_73, e_X5_number_76, e_X5_number_78, e_X5_number_80, e_X5_number_83, e_X5_number_85, e_X5_number_86, e_X5_number_87, e_X5_number_90, e_X5_number_93, e_X5_number_94, e_X5_number_96, e_X5_number_99, e_X5_number_100, e_X5_number_103, e_X5_number_104, e_X5_number_107, e_X5_number_108, e_X5_number_109, e_X5_number_110, e_X5_number_111, e_X5_number_112, e_X5_number_115, e_X5_number_117, cs_3, cs_1, h1, g1, if_false, g2, cs_14, h3 _ a1, k_X6_within, if_neg gd, jm_bd_v, if_true]
  · have g1 : nI k ≤ nI (p + c) := nI_le (by omega) (by omega)
    simp only [e_X5_number_0, e_X5_number_1, e_X5_number_4, e_X5_number_5, e_X5_number_6, e_X5_number_9, e_X5_number_10, e_X5_number_13, e_X5_number_16, e_X5_number_17, e_X5_number_20, e_X5_number_21, e_X5_number_22, e_X5_number_24, e_X5_number_26, e_X5_number_29, e_X5_number_32, e_X5_number_33, e_X5_number_34, e_X5_number_37, e_X5_number_38, e_X5_number_39, e_X5_number_42, e_X5_number_44, e_X5_number_46, e_X5_number_47, e_X5_number_48, e_X5_number_51, e_X5_number_52, e_X5_number_53, e_X5_number_54, e_X5_number_56, e_X5_number_57, e_X5_number_59, e_X5_number_62, e_X5_number_66, e_X5_number_67, e_X5_number_70, e_X5_number_71, e_X5_number_72, e_X5_number_73, e_X5_number_76, e_X5_number_78, e_X5_number_80, e_X5_number_83, e_X5_number_85, e_X5_number_86, e_X5_number_87, e_X5_number_90, e_X5_number_93, e_X5_number_94, e_X5_number_96, e_X5_number_99, e_X5_number_100, e_X5_number_103, e_X5_number_104, e_X5_number_107, e_X5_number_108, e_X5_number_109, e_X5_number_110, e_X5_number_111, e_X5_number_112, e_X5_number_115, e_X5_number_117, cs_1, h1, g1, if_true]
theorem nb_y {c v lo hi : Nat} {l5 : Value} (hp : p + c < 200) (h : c = 1 ∨ c = 2) (hv : v < 1000) (hl : hi < 100) (h1 : lo ≤ v) (h2 : v ≤ hi) : jm_R (d + 2) md_X5_number 65 [.ref 13, .int (nI lo), .int (nI hi), .int (nI (p + c)), .int (nI v), l5] [] (jm_mk (cs m (nI p) l q x)) = some (some (.int (nI v)), jm_mk (cs m (nI (p + c)) l q x)) := by
  have e1 : nI (p + c) - nI p = nI c := by rw [nI_subN (by omega) (by omega)]; congr 1; omega
  have g1 : ¬ nI c < nI 1 ∧ ¬ nI 2 < nI c := ⟨nI_nlt (by omega) (by omega), nI_nlt (by omega) (by omega)⟩
  have g2 : ¬ nI v < nI lo ∧ ¬ nI hi < nI v := ⟨nI_nlt h1 (by omega), nI_nlt h2 (by omega)⟩
  simp only [e_X5_number_0, e_X5_number_1, e_X5_number_4, e_X5_number_5, e_X5_number_6, e_X5_number_9, e_X5_number_10, e_X5_number_13, e_X5_number_16, e_X5_number_17, e_X5_number_20, e_X5_number_21, e_X5_number_22, e_X5_number_24, e_X5_number_26, e_X5_number_29, e_X5_number_32, e_X5_number_33, e_X5_number_34, e_X5_number_37, e_X5_number_38, e_X5_number_39, e_X5_number_42, e_X5_number_44, e_X5_number_46, e_X5_number_47, e_X5_number_48, e_X5_number_51, e_X5_number_52, e_X5_number_53, e_X5_number_54, e_X5_number_56, e_X5_number_57, e_X5_number_59, e_X5_number_62, e_X5_number_65, e_X5_number_66, e_X5_number_67, e_X5_number_70, e_X5_number_71, e_X5_number_72, e_X5_number_73, e_X5_number_76, e_X5_number_78, e_X5_number_80, e_X5_number_83, e_X5_number_85, e_X5_number_86, e_X5_number_87, e_X5_number_90, e_X5_number_93, e_X5_number_94, e_X5_number_96, e_X5_number_99, e_X5_number_100, e_X5_number_103, e_X5_number_104, e_X5_number_107, e_X5_number_108, e_X5_number_109, e_X5_number_110, e_X5_number_111, e_X5_number_112, e_X5_number_115, e_X5_number_117, cs_3, e1, k_X6_within, if_pos g1, jm_bd_v, bv1, if_false, if_pos g2, not_false_eq_true, if_true, cs_u3]
theorem nb_n {c v lo hi : Nat} {l5 : Value} (hp : p + c < 200) (hc : c ≤ 3) (hv : v < 100000) (hl : hi < 100) (h : ¬ ((c = 1 ∨ c = 2) ∧ lo ≤ v ∧ v ≤ hi)) (hlo : lo < 100) : jm_R (d + 2) md_X5_number 65 [.ref 13, .int (nI lo), .int (nI hi), .int (nI (p + c)), .int (nI v), l5] [] (jm_mk (cs m (nI p) l q x)) = some (some (.int (-1)), jm_mk (cs m (nI p) (nI (if c = 1 ∨ c = 2 then 2 else 1)) (nI p) x)) := by
  have e1 : nI (p + c) - nI p = nI c := by rw [nI_subN (by omega) (by omega)]; congr 1; omega
  by_cases z : c = 1 ∨ c = 2
  · have g1 : ¬ nI c < nI 1 ∧ ¬ nI 2 < nI c := ⟨nI_nlt (by omega) (by omega), nI_nlt (by omega) (by omega)⟩
    have g2 : ¬ (¬ nI v < nI lo ∧ ¬ nI hi < nI v) := by
      rw [nI_ltI (by omega) (by omega), nI_ltI (by omega) (by omega)]
      omega
    rw [if_pos z]
    simp only [e_X5_number_0, e_X5_number_1, e_X5_number_4, e_X5_number_5, e_X5_number_6, e_X5_number_9, e_X5_number_10, e_X5_number_13, e_X5_number_16, e_X5_number_17, e_X5_number_20, e_X5_number_21, e_X5_number_22, e_X5_number_24, e_X5_number_26, e_X5_number_29, e_X5_number_32, e_X5_number_33, e_X5_number_34, e_X5_number_37, e_X5_number_38, e_X5_number_39, e_X5_number_42, e_X5_number_44, e_X5_number_46, e_X5_number_47, e_X5_number_48, e_X5_number_51, e_X5_number_52, e_X5_number_53, e_X5_number_54, e_X5_number_56, e_X5_number_57, e_X5_number_59, e_X5_number_62, e_X5_number_65, e_X5_number_66, e_X5_number_67, e_X5_number_70, e_X5_number_71, e_X5_number_72, e_X5_number_73, e_X5_number_76, e_X5_number_78, e_X5_number_80, e_X5_number_83, e_X5_number_85, e_X5_number_86, e_X5_number_87, e_X5_number_90, e_X5_number_93, e_X5_number_94, e_X5_number_96, e_X5_number_99, e_X5_number_100, e_X5_number_103, e_X5_number_104, e_X5_number_107, e_X5_number_108, e_X5_number_109, e_X5_number_110, e_X5_number_111, e_X5_number_112, e_X5_number_115, e_X5_number_117, cs_3, e1, k_X6_within, if_pos g1, jm_bd_v, bv1, if_false, if_neg g2, not_true_eq_false, k_refuse]
  · have g1 : ¬ (¬ nI c < nI 1 ∧ ¬ nI 2 < nI c) := by
      rw [nI_ltI (by omega) (by omega), nI_ltI (by omega) (by omega)]
      omega
    rw [if_neg z]
    simp only [e_X5_number_0, e_X5_number_1, e_X5_number_4, e_X5_number_5, e_X5_number_6, e_X5_number_9, e_X5_number_10, e_X5_number_13, e_X5_number_16, e_X5_number_17, e_X5_number_20, e_X5_number_21, e_X5_number_22, e_X5_number_24, e_X5_number_26, e_X5_number_29, e_X5_number_32, e_X5_number_33, e_X5_number_34, e_X5_number_37, e_X5_number_38, e_X5_number_39, e_X5_number_42, e_X5_number_44, e_X5_number_46, e_X5_number_47, e_X5_number_48, e_X5_number_51, e_X5_number_52, e_X5_number_53, e_X5_number_54, e_X5_number_56, e_X5_number_57, e_X5_number_59, e_X5_number_62, e_X5_number_65, e_X5_number_66, e_X5_number_67, e_X5_number_70, e_X5_number_71, e_X5_number_72, e_X5_number_73, e_X5_number_76, e_X5_number_78, e_X5_number_80, e_X5_number_83, e_X5_number_85, e_X5_number_86, e_X5_number_87, e_X5_number_90, e_X5_number_93, e_X5_number_94, e_X5_number_96, e_X5_number_99, e_X5_number_100, e_X5_number_103, e_X5_number_104, e_X5_number_107, e_X5_number_108, e_X5_number_109, e_X5_number_110, e_X5_number_111, e_X5_number_112, e_X5_number_115, e_X5_number_117, cs_3, e1, k_X6_within, if_neg g1, jm_bd_v, if_true, k_refuse]
theorem nb_at (hT : CT m k B) {lo hi : Int32} (hp : p ≤ k) : ∃ v, v < 100000 ∧ ((nmL B k p = 1 ∨ nmL B k p = 2) → v = nmV B k p) ∧ jm_K (d + 1) md_X5_number [.ref 13, .int lo, .int hi] (jm_mk (cs m (nI p) l q x)) = jm_R (d + 1) md_X5_number 65 [.ref 13, .int lo, .int hi, .int (nI (p + nmL B k p)), .int (nI v), .null] [] (jm_mk (cs m (nI p) l q x)) := by
  have h0 : jm_K (d + 1) md_X5_number [.ref 13, .int lo, .int hi] (jm_mk (cs m (nI p) l q x)) = jm_R (d + 1) md_X5_number 8 [.ref 13, .int lo, .int hi, .int (nI (p + 0)), .int (nI 0), .null] [] (jm_mk (cs m (nI p) l q x)) := by
    show jm_R (d + 1) md_X5_number 0 [.ref 13, .int lo, .int hi, .null, .null, .null] [] _ = _
    simp only [e_X5_number_0, e_X5_number_1, e_X5_number_4, e_X5_number_5, e_X5_number_6, e_X5_number_9, e_X5_number_10, e_X5_number_13, e_X5_number_16, e_X5_number_17, e_X5_number_20, e_X5_number_21, e_X5_number_22, e_X5_number_24, e_X5_number_26, e_X5_number_29, e_X5_number_32, e_X5_number_33, e_X5_number_34, e_X5_number_37, e_X5_number_38, e_X5_number_39, e_X5_number_42, e_X5_number_44, e_X5_number_46, e_X5_number_47, e_X5_number_48, e_X5_number_51, e_X5_number_52, e_X5_number_53, e_X5_number_54, e_X5_number_56, e_X5_number_57, e_X5_number_59, e_X5_number_62, e_X5_number_65, e_X5_number_66, e_X5_number_67, e_X5_number_70, e_X5_number_71, e_X5_number_72, e_X5_number_73, e_X5_number_76, e_X5_number_78, e_X5_number_80, e_X5_number_83, e_X5_number_85, e_X5_number_86, e_X5_number_87, e_X5_number_90, e_X5_number_93, e_X5_number_94, e_X5_number_96, e_X5_number_99, e_X5_number_100, e_X5_number_103, e_X5_number_104, e_X5_number_107, e_X5_number_108, e_X5_number_109, e_X5_number_110, e_X5_number_111, e_X5_number_112, e_X5_number_115, e_X5_number_117, cs_3, Nat.add_zero]
  rw [h0]
  rcases nm_cases B k p with ⟨b, a⟩ | ⟨b, b1, a, c⟩ | ⟨b, b1, b2, a, c⟩ | ⟨b, b1, b2, a⟩
  · refine ⟨0, by decide, fun h => by omega, ?_⟩
    rw [a, nb_stop hT (c := 0) hp (Or.inl b)]
  · have := b.2.2
    have := b.1
    refine ⟨10 * 0 + (B (p + 0) - 48), by rw [Nat.add_zero]; omega, fun _ => by rw [c, Nat.add_zero]; omega, ?_⟩
    rw [a, nb_step hT (c := 0) (by decide) (by decide) b, nb_stop hT (c := 1) (by omega) (Or.inl b1)]
  · have := b.2.2
    have := b1.2.2
    have := b1.1
    refine ⟨10 * (10 * 0 + (B (p + 0) - 48)) + (B (p + 1) - 48), by rw [Nat.add_zero]; omega, fun _ => by rw [c, Nat.add_zero]; omega, ?_⟩
    rw [a, nb_step hT (c := 0) (by decide) (by decide) b, nb_step hT (c := 1) (by decide) (by rw [Nat.add_zero]; omega) b1, nb_stop hT (c := 2) (by omega) (Or.inl b2)]
  · have := b.2.2
    have := b1.2.2
    have := b2.2.2
    have := b2.1
    refine ⟨10 * (10 * (10 * 0 + (B (p + 0) - 48)) + (B (p + 1) - 48)) + (B (p + 2) - 48), by rw [Nat.add_zero]; omega, fun h => by omega, ?_⟩
    rw [a, nb_step hT (c := 0) (by decide) (by decide) b, nb_step hT (c := 1) (by decide) (by rw [Nat.add_zero]; omega) b1, nb_step hT (c := 2) (by decide) (by rw [Nat.add_zero]; omega) b2, nb_stop hT (c := 3) (by omega) (Or.inr rfl)]
/-- a number as it should be -/
def nOk (B : Nat → Nat) (k p lo hi : Nat) : Prop := (nmL B k p = 1 ∨ nmL B k p = 2) ∧ lo ≤ nmV B k p ∧ nmV B k p ≤ hi
def nCd (B : Nat → Nat) (k p : Nat) : Nat := if nmL B k p = 1 ∨ nmL B k p = 2 then 2 else 1
theorem nmL_le3 : nmL B k p ≤ 3 := by
  rcases nm_cases B k p with ⟨-, a⟩ | ⟨-, -, a, -⟩ | ⟨-, -, -, a, -⟩ | ⟨-, -, -, a⟩ <;> omega
theorem k_num_y (hT : CT m k B) {lo hi : Nat} (hp : p ≤ k) (hl : hi < 100) (h : nOk B k p lo hi) : jm_K (d + 2) md_X5_number [.ref 13, .int (nI lo), .int (nI hi)] (jm_mk (cs m (nI p) l q x)) = some (some (.int (nI (nmV B k p))), jm_mk (cs m (nI (p + nmL B k p)) l q x)) := by
  have hk := hT.2.1
  obtain ⟨h1, h2, h3⟩ := h
  obtain ⟨v, v1, v2, v3⟩ := nb_at (d := d + 1) (l := l) (q := q) (x := x) hT (lo := nI lo) (hi := nI hi) hp
  rw [v3, v2 h1]
  have := nm_le h1
  exact nb_y (by omega) h1 (by omega) hl h2 h3
theorem k_num_n (hT : CT m k B) {lo hi : Nat} (hp : p ≤ k) (hl : hi < 100) (hlo : lo < 100) (h : ¬ nOk B k p lo hi) : jm_K (d + 2) md_X5_number [.ref 13, .int (nI lo), .int (nI hi)] (jm_mk (cs m (nI p) l q x)) = some (some (.int (-1)), jm_mk (cs m (nI p) (nI (nCd B k p)) (nI p) x)) := by
  have hk := hT.2.1
  obtain ⟨v, v1, v2, v3⟩ := nb_at (d := d + 1) (l := l) (q := q) (x := x) hT (lo := nI lo) (hi := nI hi) hp
  rw [v3]
  have h3 := nmL_le3 (B := B) (k := k) (p := p)
  refine nb_n (by omega) h3 v1 hl (fun e => h ⟨e.1, ?_⟩) hlo
  rw [← v2 e.1]
  exact e.2
end TP
/-! cells and boats are put to an isle -/
section AD
variable {d a : Nat} {m x : Nat → Nat → Int32}
theorem k_addCell {c : Nat} {h : Int32} (ha : jm_ia a = true) (hc : c < 6) (e : x 0 5 = nI c) : jm_K d md_X2_addCell [.ref a, .int h] (jm_mk (wrI m a x)) = some (none, jm_mk (wrI m a (jm_up (jm_up x 1 c h) 0 5 (nI (c + 1))))) := by
  show jm_R d md_X2_addCell 0 [.ref a, .int h] [] _ = _
  have g1 : nI c < nI 6 := nI_lt hc (by omega)
  have e2 : jm_up x 1 c h 0 5 = nI c := by rw [jupr (by decide)]; exact e
  simp only [e_X2_addCell_0, e_X2_addCell_1, e_X2_addCell_4, e_X2_addCell_6, e_X2_addCell_9, e_X2_addCell_10, e_X2_addCell_11, e_X2_addCell_14, e_X2_addCell_15, e_X2_addCell_18, e_X2_addCell_19, e_X2_addCell_20, e_X2_addCell_21, e_X2_addCell_22, e_X2_addCell_25, e_X2_addCell_26, e_X2_addCell_27, e_X2_addCell_30, ha, wrI_0, e, g1, if_true, hc, wrI_u1, e2, nI_add, wrI_u0]
theorem k_addBoat {b : Nat} {s o v : Int32} (ha : jm_ia a = true) (hb : b < 6) (e : x 0 6 = nI b) : jm_K d md_X2_addBoat [.ref a, .int s, .int o, .int v] (jm_mk (wrI m a x)) = some (none, jm_mk (wrI m a (jm_up (jm_up (jm_up (jm_up (jm_up (jm_up x 2 b s) 3 b o) 4 b o) 5 b v) 6 b (nI 0)) 0 6 (nI (b + 1))))) := by
  show jm_R d md_X2_addBoat 0 [.ref a, .int s, .int o, .int v] [] _ = _
  have g1 : nI b < nI 6 := nI_lt hb (by omega)
  have e2 : jm_up x 2 b s 0 6 = nI b := by rw [jupr (by decide)]; exact e
  have e3 : jm_up (jm_up x 2 b s) 3 b o 0 6 = nI b := by rw [jupr (by decide)]; exact e2
  have e4 : jm_up (jm_up (jm_up x 2 b s) 3 b o) 4 b o 0 6 = nI b := by rw [jupr (by decide)]; exact e3
  have e5 : jm_up (jm_up (jm_up (jm_up x 2 b s) 3 b o) 4 b o) 5 b v 0 6 = nI b := by rw [jupr (by decide)]; exact e4
  have e6 : jm_up (jm_up (jm_up (jm_up (jm_up x 2 b s) 3 b o) 4 b o) 5 b v) 6 b (nI 0) 0 6 = nI b := by rw [jupr (by decide)]; exact e5
  simp only [e_X2_addBoat_0, e_X2_addBoat_1, e_X2_addBoat_4, e_X2_addBoat_6, e_X2_addBoat_9, e_X2_addBoat_10, e_X2_addBoat_11, e_X2_addBoat_14, e_X2_addBoat_15, e_X2_addBoat_18, e_X2_addBoat_19, e_X2_addBoat_20, e_X2_addBoat_21, e_X2_addBoat_24, e_X2_addBoat_25, e_X2_addBoat_28, e_X2_addBoat_29, e_X2_addBoat_30, e_X2_addBoat_31, e_X2_addBoat_34, e_X2_addBoat_35, e_X2_addBoat_38, e_X2_addBoat_39, e_X2_addBoat_40, e_X2_addBoat_41, e_X2_addBoat_44, e_X2_addBoat_45, e_X2_addBoat_48, e_X2_addBoat_49, e_X2_addBoat_50, e_X2_addBoat_51, e_X2_addBoat_54, e_X2_addBoat_55, e_X2_addBoat_58, e_X2_addBoat_59, e_X2_addBoat_60, e_X2_addBoat_61, e_X2_addBoat_62, e_X2_addBoat_65, e_X2_addBoat_66, e_X2_addBoat_67, e_X2_addBoat_70, ha, wrI_0, e, g1, if_true, hb, wrI_u2, wrI_u3, wrI_u4, wrI_u5, wrI_u6, e2, e3, e4, e5, e6, nI_add, wrI_u0]
def clX (x : Nat → Nat → Int32) : Nat → Nat → Int32 := fun r j => if r = 0 ∧ j < 8 then (if j = 4 then -1 else nI 0) else x r j
theorem k_clear (ha : jm_ia a = true) : jm_K d md_X2_clear [.ref a] (jm_mk (wrI m a x)) = some (none, jm_mk (wrI m a (clX x))) := by
  show jm_R d md_X2_clear 0 [.ref a] [] _ = _
  have e : jm_up (jm_up (jm_up (jm_up (jm_up (jm_up (jm_up (jm_up x 0 0 (nI 0)) 0 1 (nI 0)) 0 2 (nI 0)) 0 3 (nI 0)) 0 4 (-1)) 0 5 (nI 0)) 0 6 (nI 0)) 0 7 (nI 0) = clX x := by
    funext r j
    unfold clX jm_up
    by_cases h : r = 0
    · by_cases h8 : j < 8
      · rcases (by omega : j = 0 ∨ j = 1 ∨ j = 2 ∨ j = 3 ∨ j = 4 ∨ j = 5 ∨ j = 6 ∨ j = 7) with rfl | rfl | rfl | rfl | rfl | rfl | rfl | rfl <;> simp [h]
      · have h0 : j ≠ 0 := by omega
        have h1 : j ≠ 1 := by omega
        have h2 : j ≠ 2 := by omega
        have h3 : j ≠ 3 := by omega
        have h4 : j ≠ 4 := by omega
        have h5 : j ≠ 5 := by omega
        have h6 : j ≠ 6 := by omega
        have h7 : j ≠ 7 := by omega
        simp [h, h8, h0, h1, h2, h3, h4, h5, h6, h7]
    · simp [h]
  simp only [e_X2_clear_0, e_X2_clear_1, e_X2_clear_2, e_X2_clear_5, e_X2_clear_6, e_X2_clear_7, e_X2_clear_10, e_X2_clear_11, e_X2_clear_12, e_X2_clear_15, e_X2_clear_16, e_X2_clear_17, e_X2_clear_20, e_X2_clear_21, e_X2_clear_22, e_X2_clear_25, e_X2_clear_26, e_X2_clear_27, e_X2_clear_30, e_X2_clear_31, e_X2_clear_32, e_X2_clear_35, e_X2_clear_36, e_X2_clear_37, e_X2_clear_40, ha, wrI_u0, e]
end AD
