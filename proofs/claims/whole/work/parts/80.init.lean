/-! the two are made -/
def iz0 : jm_M := (0, fun _ _ => 0, fun _ _ => none)
def ini1 : Option jm_A := jm_run 12 1000 md_X6_init 0 [.ref 0, .null] [] (jm_grow iz0)
def ini2 (M : jm_M) : Option jm_A := jm_run 12 1000 md_X7_init 0 [.ref 217, .null] [] (jm_grow M)
def jm_isR (a j : Nat) : Bool := (decide (jm_kd a < 8) && jm_rf (jm_kd a) j) || decide (jm_kd a = 10 ∨ jm_kd a = 11)
def chkR (M : jm_M) : Bool := (List.range 230).all (fun a => decide (jm_kd a = 8 ∨ jm_kd a = 9) || (List.range (jm_ln a)).all (fun j => !jm_isR a j || decide (M.2.2 a j = jm_R0 a j)))
def chkI (M : jm_M) : Bool := (M.1 == 230) && chkR M && (List.range 8).all (fun r => decide (M.2.1 11 r = -1) && decide (M.2.1 219 r = -1)) && ([(0, 7), (217, 3), (13, 2), (217, 9), (13, 1), (217, 8), (217, 4), (200, 3), (200, 5), (200, 6), (200, 7), (221, 3), (221, 4), (221, 5), (221, 6), (217, 17), (15, 1), (15, 2), (186, 6), (193, 6), (227, 0), (227, 1), (215, 2), (217, 22)] : List (Nat × Nat)).all (fun q => decide (M.2.1 q.1 q.2 = 0))
def iniC (o : Option jm_A) (g : jm_M → Option jm_A) : Bool := match o with
  | some (none, M1) => (M1.1 == 217) && (match g M1 with
    | some (none, M2) => chkI M2
    | _ => false)
  | _ => false
set_option maxRecDepth 1000000 in
theorem ini_ok : iniC ini1 ini2 = true := by decide +kernel
theorem iniC_ex {o : Option jm_A} {g : jm_M → Option jm_A} (h : iniC o g = true) : ∃ M1 M2, o = some (none, M1) ∧ M1.1 = 217 ∧ g M1 = some (none, M2) ∧ chkI M2 = true := by
  unfold iniC at h
  split at h
  · rename_i M1
    rw [Bool.and_eq_true, beq_iff_eq] at h
    obtain ⟨h1, h2⟩ := h
    split at h2
    · rename_i M2 hg
      exact ⟨M1, M2, rfl, h1, hg, h2⟩
    · cases h2
  · cases h
def LyR (M : jm_M) : Prop := ∀ a, a < 230 → ∀ j, j < jm_ln a → (jm_kd a < 8 → jm_rf (jm_kd a) j = true → M.2.2 a j = jm_R0 a j) ∧ (jm_kd a = 10 ∨ jm_kd a = 11 → M.2.2 a j = jm_R0 a j)
theorem chkR_ly {M : jm_M} (h : chkR M = true) : LyR M := by
  intro a ha j hj
  have h1 := List.all_eq_true.mp h a (List.mem_range.mpr ha)
  simp only [Bool.or_eq_true, decide_eq_true_eq] at h1
  have key : jm_isR a j = true → ¬ (jm_kd a = 8 ∨ jm_kd a = 9) → M.2.2 a j = jm_R0 a j := fun hi hn => by
    rcases h1 with h1 | h1
    · exact absurd h1 hn
    · have h2 := List.all_eq_true.mp h1 j (List.mem_range.mpr hj)
      rw [hi] at h2
      simpa using h2
  refine ⟨fun hk hr => key ?_ (by omega), fun hk => key ?_ (by omega)⟩
  · unfold jm_isR
    simp [hk, hr]
  · unfold jm_isR
    simp [hk]
theorem chkI_ok {M : jm_M} (h : chkI M = true) : M.1 = 230 ∧ LyR M ∧ Rel M.2.1 := by
  unfold chkI at h
  simp only [Bool.and_eq_true, beq_iff_eq] at h
  obtain ⟨⟨⟨h1, h2⟩, h3⟩, h4⟩ := h
  refine ⟨h1, chkR_ly h2, ?_⟩
  have n0 : nI 0 = 0 := rfl
  have k : ∀ q ∈ ([(0, 7), (217, 3), (13, 2), (217, 9), (13, 1), (217, 8), (217, 4), (200, 3), (200, 5), (200, 6), (200, 7), (221, 3), (221, 4), (221, 5), (221, 6), (217, 17), (15, 1), (15, 2), (186, 6), (193, 6), (227, 0), (227, 1), (215, 2), (217, 22)] : List (Nat × Nat)), M.2.1 q.1 q.2 = nI 0 := fun q hq => by
    have := List.all_eq_true.mp h4 q hq
    rw [n0]
    simpa using this
  have e : ∀ a j, (a, j) ∈ ([(0, 7), (217, 3), (13, 2), (217, 9), (13, 1), (217, 8), (217, 4), (200, 3), (200, 5), (200, 6), (200, 7), (221, 3), (221, 4), (221, 5), (221, 6), (217, 17), (15, 1), (15, 2), (186, 6), (193, 6), (227, 0), (227, 1), (215, 2), (217, 22)] : List (Nat × Nat)) → M.2.1 a j = nI 0 := fun a j hq => k (a, j) hq
  refine ⟨fun r hr => ?_, ?_, ⟨?_, 0, by decide, e _ _ (by decide), e _ _ (by decide), fun i hi => absurd hi (by omega)⟩, Or.inl ⟨e _ _ (by decide), e _ _ (by decide), e _ _ (by decide), e _ _ (by decide), e _ _ (by decide), e _ _ (by decide), e _ _ (by decide), e _ _ (by decide), e _ _ (by decide), e _ _ (by decide)⟩, ⟨0, 0, by decide, by decide, e _ _ (by decide), e _ _ (by decide), e _ _ (by decide), fun i hi => absurd hi (by omega)⟩, fun k hk => ?_, ⟨0, by decide, e _ _ (by decide), e _ _ (by decide), fun i hi => absurd hi (by omega)⟩⟩
  · have := List.all_eq_true.mp h3 r (List.mem_range.mpr hr)
    rw [Bool.and_eq_true, decide_eq_true_eq, decide_eq_true_eq] at this
    exact Or.inl this
  · show M.2.1 0 7 = M.2.1 217 3
    rw [e 0 7 (by decide), e 217 3 (by decide)]
  · rw [e 13 2 (by decide), e 217 9 (by decide)]
  · rcases (by omega : k = 0 ∨ k = 1) with rfl | rfl
    · exact Or.inl ⟨e 186 6 (by decide), e 227 0 (by decide)⟩
    · exact Or.inl ⟨e 193 6 (by decide), e 227 1 (by decide)⟩
/-- both made, from nothing -/
theorem ini_ex : ∃ M1 M2, jm_K 12 md_X6_init [.ref 0] (jm_grow iz0) = some (none, M1) ∧ M1.1 = 217 ∧ jm_K 12 md_X7_init [.ref 217] (jm_grow M1) = some (none, M2) ∧ M2.1 = 230 ∧ LyR M2 ∧ Rel M2.2.1 := by
  obtain ⟨M1, M2, h1, h2, h3, h4⟩ := iniC_ex ini_ok
  obtain ⟨h5, h6, h7⟩ := chkI_ok h4
  exact ⟨M1, M2, jm_R_of (f := 1000) h1, h2, jm_R_of (f := 1000) h3, h5, h6, h7⟩
set_option maxRecDepth 100000 in
theorem jm_kd_11 : ∀ k, k < 230 → jm_kd k ≤ 11 := by decide +kernel
/-- what is laid out as the layout says is as the layout -/
theorem jm_H_ly {θ : jm_T} {M : jm_M} {H : Heap} (h : jm_H θ M H) (h0 : M.1 = 230) (hl : LyR M) : jm_H θ (jm_mk M.2.1) H := by
  refine ⟨h.1, fun q => absurd q (by show ¬ 230 < 230; omega), Nat.le_refl _, fun k q hq => ?_⟩
  have hk : k < (jm_mk M.2.1).1 := by
    have := (List.getElem?_eq_some_iff.mp hq).1
    simpa [jm_W] using this
  have hk2 : k < 230 := hk
  rw [jm_W_get hk] at hq
  cases hq
  have hb := h.2.2.2 k _ (jm_W_get (by omega))
  have hr : ∀ j, j < jm_ln k → jm_kd k = 10 ∨ jm_kd k = 11 → jm_rq θ (M.2.2 k j) = jm_rq θ (jm_R0 k j) := fun j hj hc => by rw [(hl k hk2 j hj).2 hc]
  by_cases c1 : jm_kd k < 8
  · rw [jm_E_obj rfl c1] at hb ⊢
    have : (List.range (jm_ln k)).map (jm_fv θ (jm_mk M.2.1) (jm_kd k) k) = (List.range (jm_ln k)).map (jm_fv θ M (jm_kd k) k) := by
      apply List.map_congr_left
      intro j hj
      have hj := List.mem_range.mp hj
      unfold jm_fv
      cases hrf : jm_rf (jm_kd k) j with
      | true =>
        show va_rf (jm_rq θ (jm_R0 k j)) = va_rf (jm_rq θ (M.2.2 k j))
        rw [(hl k hk2 j hj).1 c1 hrf]
      | false => rfl
    rw [this]
    exact hb
  · by_cases c2 : jm_kd k = 8
    · rw [jm_E_int c2] at hb ⊢
      exact hb
    · by_cases c3 : jm_kd k = 9
      · rw [jm_E_boo c3] at hb ⊢
        exact hb
      · have hA : ∀ (cA : ClassId) (f g : Nat → Option Nat), (∀ j, j < jm_ln k → f j = g j) → vp_cell cA (jm_ln k, .inr (.inr (.inr (.inr f)))) = vp_cell cA (jm_ln k, .inr (.inr (.inr (.inr g)))) := fun cA f g hfg => by
          rw [vp_cell_q, vp_cell_q]
          unfold arrV
          congr 1
          apply congrArg
          funext i
          show va_rf (f i.1) = va_rf (g i.1)
          rw [hfg i.1 i.2]
        have hkd := jm_kd_11 k hk2
        by_cases c4 : jm_kd k = 10
        · rw [jm_E_isl c4] at hb ⊢
          exact Eq.trans hb (congrArg some (hA _ _ _ (fun j hj => hr j hj (Or.inl c4))))
        · have c5 : jm_kd k = 11 := by omega
          rw [jm_E_grd c5] at hb ⊢
          exact Eq.trans hb (congrArg some (hA _ _ _ (fun j hj => hr j hj (Or.inr c5))))
