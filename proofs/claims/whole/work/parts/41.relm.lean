/-! what holds between the calls -/
def R1 (m : Nat → Nat → Int32) : Prop := ∀ r, r < 8 → (m 11 r = -1 ∧ m 219 r = -1) ∨ ∃ k n, k ≤ 2 ∧ n ≤ 40 ∧ m 11 r = nI k ∧ m 218 r = nI k ∧ m 12 r = nI n ∧ m 219 r = nI n ∧ ∀ i, i < 40 → m (3 + r) i = m 220 (40 * r + i)
def R2 (m : Nat → Nat → Int32) : Prop := m 0 7 = m 217 3
def R3 (m : Nat → Nat → Int32) : Prop := m 13 2 = m 217 9 ∧ ∃ k, k ≤ 120 ∧ m 13 1 = nI k ∧ m 217 8 = nI k ∧ ∀ i, i < k → m 14 i = m 223 i ∧ ∃ b, b < 256 ∧ m 223 i = nI b
def R4 (m : Nat → Nat → Int32) : Prop := (m 217 4 = nI 0 ∧ m 200 3 = nI 0 ∧ m 200 5 = nI 0 ∧ m 200 6 = nI 0 ∧ m 200 7 = nI 0 ∧ m 221 3 = nI 0 ∧ m 221 4 = nI 0 ∧ m 221 5 = nI 0 ∧ m 221 6 = nI 0 ∧ m 217 17 = nI 0) ∨ (m 217 4 = nI 1 ∧ GX (vwI m 200) (m 221))
def kpA (e k i : Nat) : Nat := 17 + 7 * ((e + 24 - k + i) % 24)
def R5 (m : Nat → Nat → Int32) : Prop := ∃ e k, e < 24 ∧ k ≤ 24 ∧ m 15 1 = nI e ∧ m 15 2 = nI k ∧ m 217 17 = nI k ∧ ∀ i, i < k → GX (vwI m (kpA e k i)) (fun j => m 225 (44 * i + j))
def R6 (m : Nat → Nat → Int32) : Prop := ∀ k, k < 2 → (m (186 + 7 * k) 6 = nI 0 ∧ m 227 k = nI 0) ∨ (m 227 k = nI 1 ∧ m 217 4 = nI 1 ∧ GX (vwI m (186 + 7 * k)) (fun j => m 228 (44 * k + j)))
def R7 (m : Nat → Nat → Int32) : Prop := ∃ t, t ≤ 16 ∧ m 215 2 = nI t ∧ m 217 22 = nI t ∧ ∀ i, i < t → m 216 i = m 229 i
def Rel (m : Nat → Nat → Int32) : Prop := R1 m ∧ R2 m ∧ R3 m ∧ R4 m ∧ R5 m ∧ R6 m ∧ R7 m
theorem IR_congrx {x x' : Nat → Nat → Int32} {y : Nat → Int32} {C N : Nat} (h : ∀ r, r < 7 → x' r = x r) (hr : IR x y C N) : IR x' y C N := by
  unfold IR
  rw [h 0 (by decide), h 1 (by decide), h 2 (by decide), h 3 (by decide), h 4 (by decide), h 5 (by decide), h 6 (by decide)]
  exact hr
theorem GX.congrx {x x' : Nat → Nat → Int32} {y : Nat → Int32} (h : ∀ r, r < 7 → x' r = x r) (g : GX x y) : GX x' y := by
  obtain ⟨C, N, o, hv, hr⟩ := g
  exact ⟨C, N, o, hv, IR_congrx h hr⟩
/-- alike but for what is scratch -/
def AG (m m' : Nat → Nat → Int32) : Prop := ∀ a j, ¬ (208 ≤ a ∧ a < 215) → a ≠ 226 → (a = 221 → j < 44) → m' a j = m a j
theorem AG.row {m m' : Nat → Nat → Int32} (h : AG m m') {a : Nat} (h1 : ¬ (208 ≤ a ∧ a < 215)) (h2 : a ≠ 226) (h3 : a ≠ 221) : m' a = m a := by
  funext j
  exact h a j h1 h2 (fun e => absurd e h3)
theorem AG.refl {m : Nat → Nat → Int32} : AG m m := fun _ _ _ _ _ => rfl
theorem AG.trans {m m' m'' : Nat → Nat → Int32} (h : AG m m') (h' : AG m' m'') : AG m m'' := fun a j h1 h2 h3 => (h' a j h1 h2 h3).trans (h a j h1 h2 h3)
theorem AG.vw {m m' : Nat → Nat → Int32} (h : AG m m') {a : Nat} (ha : a + 7 ≤ 208) : ∀ r, r < 7 → vwI m' a r = vwI m a r := fun r hr => by
  show m' (a + r) = m (a + r)
  exact h.row (by omega) (by omega) (by omega)
theorem Rel.ag {m m' : Nat → Nat → Int32} (hR : Rel m) (h : AG m m') : Rel m' := by
  obtain ⟨h1, h2, h3, h4, h5, h6, h7⟩ := hR
  have st : ∀ j, j < 44 → m' 221 j = m 221 j := fun j hj => h 221 j (by decide) (by decide) (fun _ => hj)
  refine ⟨?_, ?_, ?_, ?_, ?_, ?_, ?_⟩
  · intro r hr
    rw [h.row (a := 11) (by decide) (by decide) (by decide), h.row (a := 219) (by decide) (by decide) (by decide), h.row (a := 218) (by decide) (by decide) (by decide), h.row (a := 12) (by decide) (by decide) (by decide), h.row (a := 220) (by decide) (by decide) (by decide), h.row (a := 3 + r) (by omega) (by omega) (by omega)]
    exact h1 r hr
  · unfold R2
    rw [h.row (a := 0) (by decide) (by decide) (by decide), h.row (a := 217) (by decide) (by decide) (by decide)]
    exact h2
  · unfold R3
    rw [h.row (a := 13) (by decide) (by decide) (by decide), h.row (a := 217) (by decide) (by decide) (by decide), h.row (a := 14) (by decide) (by decide) (by decide), h.row (a := 223) (by decide) (by decide) (by decide)]
    exact h3
  · unfold R4
    rw [h.row (a := 200) (by decide) (by decide) (by decide), h.row (a := 217) (by decide) (by decide) (by decide), st 3 (by decide), st 4 (by decide), st 5 (by decide), st 6 (by decide)]
    rcases h4 with q | ⟨q1, q2⟩
    · exact Or.inl q
    · exact Or.inr ⟨q1, (q2.congr st).congrx (h.vw (by decide))⟩
  · obtain ⟨e, k, e1, e2, e3, e4, e5, e6⟩ := h5
    refine ⟨e, k, e1, e2, ?_, ?_, ?_, fun i hi => ?_⟩
    · rw [h.row (a := 15) (by decide) (by decide) (by decide)]; exact e3
    · rw [h.row (a := 15) (by decide) (by decide) (by decide)]; exact e4
    · rw [h.row (a := 217) (by decide) (by decide) (by decide)]; exact e5
    · rw [h.row (a := 225) (by decide) (by decide) (by decide)]
      exact (e6 i hi).congrx (h.vw (by unfold kpA; omega))
  · intro k hk
    rw [h.row (a := 217) (by decide) (by decide) (by decide), h.row (a := 227) (by decide) (by decide) (by decide), h.row (a := 228) (by decide) (by decide) (by decide), h.row (a := 186 + 7 * k) (by omega) (by omega) (by omega)]
    rcases h6 k hk with q | ⟨q1, q3, q2⟩
    · exact Or.inl q
    · exact Or.inr ⟨q1, q3, q2.congrx (h.vw (by omega))⟩
  · unfold R7
    rw [h.row (a := 215) (by decide) (by decide) (by decide), h.row (a := 217) (by decide) (by decide) (by decide), h.row (a := 216) (by decide) (by decide) (by decide), h.row (a := 229) (by decide) (by decide) (by decide)]
    exact h7
/-- both answer alike, and what holds holds on -/
def Api (mc mm : jm_Md) (As : List Value) : Prop := ∀ m, Rel m → ∃ (r : Value) (m1 m2 : Nat → Nat → Int32), jm_K 12 mc (.ref 0 :: As) (jm_mk m) = some (some r, jm_mk m1) ∧ jm_K 12 mm (.ref 217 :: As) (jm_mk m1) = some (some r, jm_mk m2) ∧ Rel m2
/-- a question: nothing changes but what is scratch -/
theorem Api.ask {mc mm : jm_Md} {As : List Value} (h : ∀ m, Rel m → ∃ (r : Value) (m1 m2 : Nat → Nat → Int32), jm_K 12 mc (.ref 0 :: As) (jm_mk m) = some (some r, jm_mk m1) ∧ jm_K 12 mm (.ref 217 :: As) (jm_mk m1) = some (some r, jm_mk m2) ∧ AG m m2) : Api mc mm As := by
  intro m hR
  obtain ⟨r, m1, m2, h1, h2, h3⟩ := h m hR
  exact ⟨r, m1, m2, h1, h2, hR.ag h3⟩
theorem wr2_self {m : Nat → Nat → Int32} : wrA (wrA m 226 (m 226)) 221 (m 221) = m := by
  rw [wrA_self (m := m) (A := 226), wrA_self]
theorem AG_wr2 {m : Nat → Nat → Int32} {z y : Nat → Int32} (h : ∀ j, j < 44 → y j = m 221 j) : AG m (wrA (wrA m 226 z) 221 y) := by
  intro a j h1 h2 h3
  by_cases q : a = 221
  · subst q; rw [wrA_at]; exact h j (h3 rfl)
  · rw [wrA_ne q, wrA_ne h2]
theorem AG_wrI {m x : Nat → Nat → Int32} : AG m (wrI m 208 x) := by
  intro a j h1 h2 h3
  unfold wrI
  rw [if_neg h1]
theorem wrI_o {m x : Nat → Nat → Int32} {a : Nat} (h : ¬ (208 ≤ a ∧ a < 215)) : wrI m 208 x a = m a := by
  funext j
  unfold wrI
  rw [if_neg h]
/-- the boats that there are -/
theorem Rel.boats {m : Nat → Nat → Int32} (h : Rel m) : ∃ C N, C ≤ 6 ∧ N ≤ 6 ∧ m 200 6 = nI N ∧ m 221 4 = nI N ∧ m 200 5 = nI C ∧ m 221 3 = nI C ∧ ((N = 0 ∧ C = 0 ∧ m 217 4 = nI 0) ∨ (0 < N ∧ m 217 4 = nI 1 ∧ ∃ o, IV (m 221) C N o ∧ IR (vwI m 200) (m 221) C N)) := by
  obtain ⟨-, -, -, h4, -⟩ := h
  rcases h4 with ⟨q0, q1, q2, q3, q4, q5, q6, q7, q8⟩ | ⟨q1, C, N, o, hv, hr⟩
  · exact ⟨0, 0, by decide, by decide, q3, q6, q2, q5, Or.inl ⟨rfl, rfl, q0⟩⟩
  · obtain ⟨a1, a2, a3, a4, a5, a6, a7, a8, a9, a10, a11⟩ := GX.all hv hr
    exact ⟨C, N, a2, a4, a3, hv.2.1.1, a1, hv.1.1, Or.inr ⟨by have := hv.2.1.2.1; omega, q1, o, hv, hr⟩⟩
theorem ix_of {b : Int32} {N : Nat} (h : ¬ b < nI 0 ∧ ¬ nI N ≤ b) (hN : N ≤ 100) : ∃ j, j < N ∧ b = nI j := by
  obtain ⟨j, hj, e⟩ := nI_of (x := b) h.1
  refine ⟨j, ?_, e⟩
  rcases Nat.lt_or_ge j N with q | q
  · exact q
  · exact absurd (by rw [e]; exact nI_le q hj) h.2
theorem rg_of {b : Int32} {lo hi : Nat} (h : ¬ b < nI lo ∧ ¬ nI hi < b) (hh : hi ≤ 1000000) (hl : lo ≤ 1000) : ∃ j, lo ≤ j ∧ j ≤ hi ∧ b = nI j := by
  have h0 : ¬ b < 0 := by
    intro q
    apply h.1
    rw [Int32.lt_iff_toInt_lt] at q ⊢
    rw [nI_toInt (by omega)]
    have : (0 : Int32).toInt = 0 := by decide
    omega
  obtain ⟨j, hj, e⟩ := nI_of (x := b) h0
  refine ⟨j, ?_, ?_, e⟩
  · rcases Nat.lt_or_ge j lo with q | q
    · exact absurd (by rw [e]; exact nI_lt q (by omega)) h.1
    · exact q
  · rcases Nat.lt_or_ge hi j with q | q
    · exact absurd (by rw [e]; exact nI_lt q hj) h.2
    · exact q
/-- good, with its counts -/
def GN (C N : Nat) (x : Nat → Nat → Int32) (y : Nat → Int32) : Prop := ∃ o, IV y C N o ∧ IR x y C N
theorem GN.gx {C N : Nat} {x : Nat → Nat → Int32} {y : Nat → Int32} (g : GN C N x y) : GX x y := by
  obtain ⟨o, h⟩ := g
  exact ⟨C, N, o, h⟩
theorem GN.step {C N : Nat} {x : Nat → Nat → Int32} {y : Nat → Int32} (g : GN C N x y) : GN C N (pasS x) (ohS y) := by
  obtain ⟨o, hv, hr⟩ := g
  obtain ⟨a1, a2, a3, a4, a5, a6, a7, a8, a9, a10, a11⟩ := GX.all hv hr
  have hs := lock_sh (k := nI 0) hr a2
  rw [add0] at hs
  have := lock_hour hv hr hs
  have b := GX.all hv (IR_vx (C := C) (N := N))
  have e1 : (y 4).toNatClampNeg = N := b.2.2.2.2.2.2.2.2.1
  have e2 : (y 3).toNatClampNeg = C := b.2.2.2.2.2.2.2.2.2.1
  have e3 : uO (y 7) = o := b.2.2.2.2.2.2.2.2.2.2
  refine ⟨nwoM y N (dryMs y (watM y (y 5)) C 0 (nI 0)) o, ?_, ?_⟩
  · unfold ohS
    rw [e1, e2, e3]
    exact this.2.2
  · unfold ohS pasS
    rw [e1, e2, e3, a9, a10, a11]
    exact this.2.1
theorem GN.steps {C N : Nat} {x : Nat → Nat → Int32} {y : Nat → Int32} (g : GN C N x y) : ∀ n, GN C N (pasN x n) (ohN y n)
  | 0 => g
  | n + 1 => (GN.steps g n).step
theorem GN.bec {C N : Nat} {x w : Nat → Nat → Int32} {y : Nat → Int32} (g : GN C N x y) : GN C N (becI w x) y := by
  obtain ⟨o, hv, ⟨h0, h1, h2, h3, h4, h5, h6, h7⟩, hc, hb⟩ := g
  have hC := hv.1.2.2
  have hN := hv.2.1.2.2
  have e0 : ∀ j, j < 8 → becI w x 0 j = x 0 j := fun j hj => by unfold becI; rw [if_pos rfl, if_pos hj]
  have er : ∀ r j, r ≠ 0 → r < 7 → j < 6 → becI w x r j = x r j := fun r j h1 h2 h3 => by unfold becI; rw [if_neg h1, if_pos ⟨h2, h3⟩]
  refine ⟨o, hv, ⟨by rw [e0 _ (by decide)]; exact h0, by rw [e0 _ (by decide)]; exact h1, by rw [e0 _ (by decide)]; exact h2, by rw [e0 _ (by decide)]; exact h3, by rw [e0 _ (by decide)]; exact h4, by rw [e0 _ (by decide)]; exact h5, by rw [e0 _ (by decide)]; exact h6, by rw [e0 _ (by decide)]; exact h7⟩, fun c hcC => by rw [er 1 c (by decide) (by decide) (by omega)]; exact hc c hcC, fun b hbN => ?_⟩
  rw [er 2 b (by decide) (by decide) (by omega), er 3 b (by decide) (by decide) (by omega), er 4 b (by decide) (by decide) (by omega), er 5 b (by decide) (by decide) (by omega), er 6 b (by decide) (by decide) (by omega)]
  exact hb b hbN
theorem GN.congr {C N : Nat} {x : Nat → Nat → Int32} {y y' : Nat → Int32} (h : ∀ j, j < 44 → y' j = y j) (g : GN C N x y) : GN C N x y' := by
  obtain ⟨o, hv, hr⟩ := g
  exact ⟨o, IV_congr h hv, IR_congr hv.1.2.2 hv.2.1.2.2 h hr⟩
theorem GN.owner {C N : Nat} {x : Nat → Nat → Int32} {y : Nat → Int32} (g : GN C N x y) : x 0 4 = y 7 ∧ ∃ o, y 7 = ovI o ∧ ∀ b, o = some b → b < N := by
  obtain ⟨o, hv, hr⟩ := g
  exact ⟨hr.1.2.2.2.2.1, o, hv.2.2.2.2.2.1⟩
theorem ov_lt {o : Option Nat} {N : Nat} (h : ∀ b, o = some b → b < N) (hN : N ≤ 6) : (ovI o < nI 0) = (ovI o = -1) := by
  cases o with
  | none => simp only [ovI, m1_lt]
  | some b => simp only [ovI, nI_nlt0 (show b < 2 ^ 31 by have := h b rfl; omega), nI_m1 (show b < 2 ^ 31 by have := h b rfl; omega)]
theorem Rel.isle {m : Nat → Nat → Int32} (h : Rel m) : ∃ C N, C ≤ 6 ∧ N ≤ 6 ∧ m 200 6 = nI N ∧ m 221 4 = nI N ∧ m 200 5 = nI C ∧ m 221 3 = nI C ∧ ((N = 0 ∧ C = 0 ∧ m 217 4 = nI 0) ∨ (0 < N ∧ m 217 4 = nI 1 ∧ GN C N (vwI m 200) (m 221))) := by
  obtain ⟨C, N, h1, h2, h3, h4, h5, h6, h7⟩ := h.boats
  refine ⟨C, N, h1, h2, h3, h4, h5, h6, ?_⟩
  rcases h7 with q | ⟨q1, q2, o, q3, q4⟩
  · exact Or.inl q
  · exact Or.inr ⟨q1, q2, o, q3, q4⟩
