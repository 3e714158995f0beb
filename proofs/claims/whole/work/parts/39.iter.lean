/-! hours and hours -/
def cN (x : Nat → Nat → Int32) : Nat := (x 0 6).toNatClampNeg
def cC (x : Nat → Nat → Int32) : Nat := (x 0 5).toNatClampNeg
def uO (v : Int32) : Option Nat := if v = -1 then none else some v.toNatClampNeg
def pasS (x : Nat → Nat → Int32) : Nat → Nat → Int32 := pasI x (cN x) (shwL (x 1) (watI x (nI 0)) (cC x) 0) (uO (x 0 4))
def pasN (x : Nat → Nat → Int32) : Nat → Nat → Nat → Int32
  | 0 => x
  | n + 1 => pasS (pasN x n)
def ohS (y : Nat → Int32) : Nat → Int32 := ohM y (y 4).toNatClampNeg (dryMs y (watM y (y 5)) (y 3).toNatClampNeg 0 (nI 0)) (uO (y 7))
def ohN (y : Nat → Int32) : Nat → Nat → Int32
  | 0 => y
  | n + 1 => ohS (ohN y n)
theorem nI_m1 {b : Nat} (h : b < 2 ^ 31) : ¬ nI b = -1 := fun e => by
  have h2 := congrArg Int32.toInt e
  rw [nI_toInt h] at h2
  have h3 : (-1 : Int32).toInt = -1 := by decide
  omega
theorem uO_ov {o : Option Nat} {N : Nat} (ho : ∀ b, o = some b → b < N) (hN : N ≤ 6) : uO (ovI o) = o := by
  cases o with
  | none => rfl
  | some b =>
    have := ho b rfl
    show (if nI b = -1 then none else some (nI b).toNatClampNeg) = some b
    rw [if_neg (nI_m1 (by omega)), nI_clamp (by omega)]
/-- a good isle of the reference -/
def GY (y : Nat → Int32) : Prop := ∃ C N o, IV y C N o
/-- a good isle of the class, and of the reference -/
def GX (x : Nat → Nat → Int32) (y : Nat → Int32) : Prop := ∃ C N o, IV y C N o ∧ IR x y C N
theorem GX.y {x : Nat → Nat → Int32} {y : Nat → Int32} (h : GX x y) : GY y := by
  obtain ⟨C, N, o, h1, -⟩ := h
  exact ⟨C, N, o, h1⟩
def vx (y : Nat → Int32) : Nat → Nat → Int32 := fun r j => match r with
  | 0 => (match j with | 0 => y 0 | 1 => y 1 | 2 => y 2 | 3 => y 5 | 4 => y 7 | 5 => y 3 | 6 => y 4 | _ => y 6)
  | 1 => y (8 + j)
  | 2 => y (14 + j)
  | 3 => y (32 + j)
  | 4 => y (20 + j)
  | 5 => y (26 + j)
  | _ => y (38 + j)
theorem IR_vx {y : Nat → Int32} {C N : Nat} : IR (vx y) y C N := ⟨⟨rfl, rfl, rfl, rfl, rfl, rfl, rfl, rfl⟩, fun _ _ => rfl, fun _ _ => ⟨rfl, rfl, rfl, rfl, rfl⟩⟩
theorem GX_vx {y : Nat → Int32} (h : GY y) : GX (vx y) y := by
  obtain ⟨C, N, o, h1⟩ := h
  exact ⟨C, N, o, h1, IR_vx⟩
theorem GX.all {x : Nat → Nat → Int32} {y : Nat → Int32} {C N : Nat} {o : Option Nat} (hv : IV y C N o) (hr : IR x y C N) : x 0 5 = nI C ∧ C ≤ 6 ∧ x 0 6 = nI N ∧ N ≤ 6 ∧ ¬ x 0 0 = 0 ∧ nI 1 ≤ x 0 0 ∧ (∀ b, o = some b → b < N) ∧ x 0 4 = ovI o ∧ cN x = N ∧ cC x = C ∧ uO (x 0 4) = o := by
  have hp := IV_p hv
  obtain ⟨⟨v1, v2, v3⟩, ⟨v4, v5, v6⟩, -, -, -, ⟨v14, v15⟩, -⟩ := hv
  obtain ⟨⟨h0, h1, h2, h3, h4, h5, h6, h7⟩, -, -⟩ := hr
  have e4 : x 0 4 = ovI o := h4.trans v14
  refine ⟨h5.trans v1, v3, h6.trans v4, v6, by rw [h0]; exact hp.1, by rw [h0]; exact hp.2, v15, e4, ?_, ?_, ?_⟩
  · unfold cN; rw [h6, v4]; exact nI_clamp (by omega)
  · unfold cC; rw [h5, v1]; exact nI_clamp (by omega)
  · rw [e4]; exact uO_ov v15 v6
theorem GX.step {x : Nat → Nat → Int32} {y : Nat → Int32} (h : GX x y) : GX (pasS x) (ohS y) := by
  obtain ⟨C, N, o, hv, hr⟩ := h
  obtain ⟨a1, a2, a3, a4, a5, a6, a7, a8, a9, a10, a11⟩ := GX.all hv hr
  have hs := lock_sh (k := nI 0) hr a2
  rw [add0] at hs
  have := lock_hour hv hr hs
  have b := GX.all hv (IR_vx (C := C) (N := N))
  refine ⟨C, N, nwoM y N (dryMs y (watM y (y 5)) C 0 (nI 0)) o, ?_, ?_⟩
  · unfold ohS
    have e1 : (y 4).toNatClampNeg = N := b.2.2.2.2.2.2.2.2.1
    have e2 : (y 3).toNatClampNeg = C := b.2.2.2.2.2.2.2.2.2.1
    have e3 : uO (y 7) = o := b.2.2.2.2.2.2.2.2.2.2
    rw [e1, e2, e3]
    exact this.2.2
  · unfold ohS pasS
    have e1 : (y 4).toNatClampNeg = N := b.2.2.2.2.2.2.2.2.1
    have e2 : (y 3).toNatClampNeg = C := b.2.2.2.2.2.2.2.2.2.1
    have e3 : uO (y 7) = o := b.2.2.2.2.2.2.2.2.2.2
    rw [e1, e2, e3, a9, a10, a11]
    exact this.2.1
theorem GX.steps {x : Nat → Nat → Int32} {y : Nat → Int32} (h : GX x y) : ∀ n, GX (pasN x n) (ohN y n)
  | 0 => h
  | n + 1 => (GX.steps h n).step
theorem GY.step {y : Nat → Int32} (h : GY y) : GY (ohS y) := (GX_vx h).step.y
theorem GY.steps {y : Nat → Int32} (h : GY y) (n : Nat) : GY (ohN y n) := ((GX_vx h).steps n).y
section IT
variable {d a : Nat} {m x : Nat → Nat → Int32} {y : Nat → Int32}
theorem p_X2_pass (ha : jm_ia a = true) (g : GX x y) : jm_K (d + 2) md_X2_pass [.ref a] (jm_mk (wrI m a x)) = some (none, jm_mk (wrI m a (pasS x))) := by
  obtain ⟨C, N, o, hv, hr⟩ := g
  obtain ⟨a1, a2, a3, a4, a5, a6, a7, a8, a9, a10, a11⟩ := GX.all hv hr
  rw [k_X2_pass ha a1 a2 a3 a4 a5 a6 a7 a8]
  unfold pasS
  rw [a9, a10, a11]
theorem pasN_S {n : Nat} : pasN x (n + 1) = pasS (pasN x n) := rfl
theorem pasN_L : ∀ {n : Nat} {x : Nat → Nat → Int32}, pasN (pasS x) n = pasN x (n + 1)
  | 0, x => rfl
  | n + 1, x => by
    show pasS (pasN (pasS x) n) = pasS (pasN x (n + 1))
    rw [pasN_L]
theorem ohN_L : ∀ {n : Nat} {y : Nat → Int32}, ohN (ohS y) n = ohN y (n + 1)
  | 0, y => rfl
  | n + 1, y => by
    show ohS (ohN (ohS y) n) = ohS (ohN y (n + 1))
    rw [ohN_L]
theorem lp_X2_passAll (ha : jm_ia a = true) {n : Nat} (hn : n < 1000) : ∀ (k c : Nat) (x : Nat → Nat → Int32) (y : Nat → Int32), GX x y → c + k = n → jm_R (d + 3) md_X2_passAll 2 [.ref a, .int (nI n), .int (nI c)] [] (jm_mk (wrI m a x)) = some (none, jm_mk (wrI m a (pasN x k))) := by
  intro k
  induction k with
  | zero =>
    intro c x y g h
    have h1 : nI n ≤ nI c := nI_le (by omega) (by omega)
    rw [e_X2_passAll_2]
    simp only [e_X2_passAll_0, e_X2_passAll_1, e_X2_passAll_3, e_X2_passAll_4, e_X2_passAll_7, e_X2_passAll_8, e_X2_passAll_11, e_X2_passAll_14, e_X2_passAll_17, h1, if_true]
    rfl
  | succ k ih =>
    intro c x y g h
    have h1 : ¬ nI n ≤ nI c := nI_ge (by omega) (by omega)
    rw [e_X2_passAll_2]
    simp only [e_X2_passAll_0, e_X2_passAll_1, e_X2_passAll_3, e_X2_passAll_4, e_X2_passAll_7, e_X2_passAll_8, e_X2_passAll_11, e_X2_passAll_14, e_X2_passAll_17, h1, if_false, ha, p_X2_pass ha g, jm_bd_0, nI_add]
    rw [ih (c + 1) (pasS x) (ohS y) g.step (by omega), pasN_L]
theorem k_X2_passAll (ha : jm_ia a = true) {n : Nat} (hn : n < 1000) (g : GX x y) : jm_K (d + 3) md_X2_passAll [.ref a, .int (nI n)] (jm_mk (wrI m a x)) = some (none, jm_mk (wrI m a (pasN x n))) := by
  show jm_R (d + 3) md_X2_passAll 0 [.ref a, .int (nI n), .null] [] _ = _
  simp only [e_X2_passAll_0, e_X2_passAll_1, e_X2_passAll_3, e_X2_passAll_4, e_X2_passAll_7, e_X2_passAll_8, e_X2_passAll_11, e_X2_passAll_14, e_X2_passAll_17]
  exact lp_X2_passAll ha hn n 0 x y g (by omega)
theorem p_X7_oneHour (g : GY y) : jm_K (d + 3) md_X7_oneHour [.ref 217] (jm_mk (wrA m 221 y)) = some (none, jm_mk (wrA m 221 (ohS y))) := by
  obtain ⟨C, N, o, hv⟩ := g
  obtain ⟨a1, a2, a3, a4, a5, a6, a7, a8, a9, a10, a11⟩ := GX.all hv (IR_vx (C := C) (N := N))
  have e1 : (y 4).toNatClampNeg = N := a9
  have e2 : (y 3).toNatClampNeg = C := a10
  have e3 : uO (y 7) = o := a11
  rw [k_X7_oneHour (y := y) (C := C) (N := N) (dr := dryMs y (watM y (y 5)) C 0 (nI 0)) (o := o) a5 a1 a2 a3 a4 rfl a7 a8]
  unfold ohS
  rw [e1, e2, e3]
theorem lp_X7_goOn {n : Nat} (hn : n < 1000) : ∀ (k c : Nat) (y : Nat → Int32), GY y → c + k = n → jm_R (d + 4) md_X7_goOn 2 [.ref 217, .int (nI n), .int (nI c)] [] (jm_mk (wrA m 221 y)) = some (none, jm_mk (wrA m 221 (ohN y k))) := by
  intro k
  induction k with
  | zero =>
    intro c y g h
    have h1 : nI n ≤ nI c := nI_le (by omega) (by omega)
    rw [e_X7_goOn_2]
    simp only [e_X7_goOn_0, e_X7_goOn_1, e_X7_goOn_3, e_X7_goOn_4, e_X7_goOn_7, e_X7_goOn_8, e_X7_goOn_11, e_X7_goOn_14, e_X7_goOn_17, h1, if_true]
    rfl
  | succ k ih =>
    intro c y g h
    have h1 : ¬ nI n ≤ nI c := nI_ge (by omega) (by omega)
    rw [e_X7_goOn_2]
    simp only [e_X7_goOn_0, e_X7_goOn_1, e_X7_goOn_3, e_X7_goOn_4, e_X7_goOn_7, e_X7_goOn_8, e_X7_goOn_11, e_X7_goOn_14, e_X7_goOn_17, h1, if_false, p_X7_oneHour g, jm_bd_0, nI_add]
    rw [ih (c + 1) (ohS y) g.step (by omega), ohN_L]
theorem k_X7_goOn {n : Nat} (hn : n < 1000) (g : GY y) : jm_K (d + 4) md_X7_goOn [.ref 217, .int (nI n)] (jm_mk (wrA m 221 y)) = some (none, jm_mk (wrA m 221 (ohN y n))) := by
  show jm_R (d + 4) md_X7_goOn 0 [.ref 217, .int (nI n), .null] [] _ = _
  simp only [e_X7_goOn_0, e_X7_goOn_1, e_X7_goOn_3, e_X7_goOn_4, e_X7_goOn_7, e_X7_goOn_8, e_X7_goOn_11, e_X7_goOn_14, e_X7_goOn_17]
  exact lp_X7_goOn hn n 0 y g (by omega)
end IT
