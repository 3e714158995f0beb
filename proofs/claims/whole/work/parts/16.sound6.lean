/-! the whole run -/
def jm_Mo (M : jm_M) : jm_N → Prop
  | .inl cf => M.1 ≤ cf.2.2.2.1
  | .inr (.inl (ν, As, cf)) => cf.2.2.2 = M ∧ (∃ (k n q : Nat), (k, ν, n, q) ∈ jm_mthT) ∧ (jm_args As).length ≤ ν.2.2.1
  | .inr (.inr a) => a.2 = M
theorem jm_Mo_call {ν : jm_Md} {As : List Value} {pc : Nat} {L S : List Value} {M : jm_M} {nx : jm_N} {k n q : Nat} (hv : jm_look k jm_mthT = some (ν, n, q)) (h : jm_call ν As pc L S M = some nx) : jm_Mo M nx := by
  obtain ⟨h1, h2, rfl⟩ := jm_call_inv h
  exact ⟨rfl, ⟨k, n, q, jm_look_mem hv⟩, h2⟩
theorem jm_Mo_invs {d : Nat} {μ : jm_Md} {idx pc : Nat} {L S : List Value} {M : jm_M} {nx : jm_N} (h : jm_invs d μ idx pc L S M = some nx) : jm_Mo M nx := by
  unfold jm_invs at h
  cases hc : jm_cpyT.contains (jm_key μ idx) with
  | true =>
    rw [hc] at h
    change jm_cpyx d pc L S M = some nx at h
    unfold jm_cpyx at h
    split at h
    · obtain ⟨-, h⟩ := jm_if_inv h
      cases h; exact Nat.le_refl _
    · cases h
  | false =>
  rw [hc] at h
  cases hc2 : jm_maxT.contains (jm_key μ idx) with
  | true =>
    rw [hc2] at h
    change jm_mmx true d pc L S M = some nx at h
    unfold jm_mmx at h
    split at h
    · obtain ⟨-, h⟩ := jm_if_inv h
      cases h; exact Nat.le_refl _
    · cases h
  | false =>
  rw [hc2] at h
  cases hc3 : jm_minT.contains (jm_key μ idx) with
  | true =>
    rw [hc3] at h
    change jm_mmx false d pc L S M = some nx at h
    unfold jm_mmx at h
    split at h
    · obtain ⟨-, h⟩ := jm_if_inv h
      cases h; exact Nat.le_refl _
    · cases h
  | false =>
  rw [hc3] at h
  unfold jm_if at h
  dsimp only at h
  split at h
  · rename_i hv
    split at h
    · obtain ⟨-, h⟩ := jm_if_inv h
      exact jm_Mo_call hv h
    · cases h
  · cases h
theorem jm_Mo_invv {μ : jm_Md} {idx pc : Nat} {L S : List Value} {M : jm_M} {nx : jm_N} (h : jm_invv μ idx pc L S M = some nx) : jm_Mo M nx := by
  unfold jm_invv at h
  split at h
  · rename_i hv
    split at h
    · obtain ⟨-, h⟩ := jm_if_inv h
      exact jm_Mo_call hv h
    · cases h
  · cases h
theorem jm_Mo_invi {d : Nat} {μ : jm_Md} {idx pc : Nat} {L S : List Value} {M : jm_M} {nx : jm_N} (h : jm_invi d μ idx pc L S M = some nx) : jm_Mo M nx := by
  unfold jm_invi at h
  cases hc : jm_objT.contains (jm_key μ idx) with
  | true =>
    rw [hc] at h
    unfold jm_if at h
    dsimp only at h
    split at h
    · obtain ⟨-, h⟩ := jm_if_inv h
      cases h; exact Nat.le_refl _
    · cases h
  | false =>
  rw [hc] at h
  unfold jm_if at h
  dsimp only at h
  split at h
  · rename_i hv
    split at h
    · obtain ⟨-, h⟩ := jm_if_inv h
      exact jm_Mo_call hv h
    · cases h
  · cases h
set_option maxHeartbeats 4000000 in
theorem jm_ex_mo {d : Nat} {μ : jm_Md} {i : Instr} {n pc : Nat} {L S : List Value} {M : jm_M} {nx : jm_N} (h : jm_ex d μ i n pc L S M = some nx) : jm_Mo M nx := by
  cases i
  case invokestatic k => obtain ⟨rfl, h⟩ := jm_ln_inv h; exact jm_Mo_invs h
  case invokevirtual k => obtain ⟨rfl, h⟩ := jm_ln_inv h; exact jm_Mo_invv h
  case invokespecial k => obtain ⟨rfl, h⟩ := jm_ln_inv h; exact jm_Mo_invi h
  case multianewarray k dm => match dm, h with
    | 2, h =>
      obtain ⟨-, h2⟩ := jm_ln_inv h
      unfold jm_grid at h2
      split at h2
      · obtain ⟨-, h3⟩ := jm_if_inv h2
        cases h3; exact Nat.le_add_right _ _
      · cases h2
    | 0, h => cases h
    | 1, h => cases h
    | _ + 3, h => cases h
  all_goals first
    | (cases h; done)
    | (simp only [jm_ex, jm_ln', jm_if, jm_ldI, jm_ldL, jm_ldA, jm_siI, jm_siL, jm_siA, jm_un, jm_bi, jm_dv, jm_bl, jm_dl, jm_getf, jm_putf, jm_gets, jm_iald, jm_bald, jm_aald, jm_iast, jm_bast, jm_aast, jm_alen, jm_newo, jm_newa, jm_newq, jm_tsw, jm_lsw, jm_ret, jm_retl, jm_reta, jm_retv, jm_dup, jm_dup2, jm_pop1, jm_iinc, jm_lcmp, jm_i2l, jm_l2i, jm_icmp, jm_ifc, jm_ldc, jm_ldc2, jm_to, jm_br, jm_nx] at h
       repeat' split at h
       all_goals first
         | (cases h; done)
         | (cases h; exact Nat.le_refl _)
         | (cases h; exact Nat.le_succ _)
         | (cases h; rfl))
theorem jm_run_mono : ∀ (f d : Nat) (μ : jm_Md) (pc : Nat) (L S : List Value) (M : jm_M) (r : Option Value) (M' : jm_M), jm_run d f μ pc L S M = some (r, M') → M.1 ≤ M'.1 := by
  intro f
  induction f with
  | zero => intro d μ pc L S M r M' h; simp [jm_run] at h
  | succ f ih =>
    intro d μ pc L S M r M' h
    unfold jm_run at h
    cases hd : decode μ.2.1 pc with
    | error => rw [hd] at h; simp at h
    | ok x =>
      obtain ⟨i, n⟩ := x
      rw [hd] at h
      dsimp only at h
      cases hx : jm_ex d μ i n pc L S M with
      | none => rw [hx] at h; simp at h
      | some nx =>
        rw [hx] at h
        have hm := jm_ex_mo hx
        rcases nx with ⟨pc', L', S', M1⟩ | ⟨ν, As, pc', L', S', M1⟩ | a
        · exact Nat.le_trans hm (ih _ _ _ _ _ _ _ _ h)
        · cases d with
          | zero => simp at h
          | succ d' =>
            dsimp only at h
            cases hy : jm_run d' f ν 0 (jm_loc ν As) [] M1 with
            | none => rw [hy] at h; simp at h
            | some w =>
              obtain ⟨r1, M2⟩ := w
              rw [hy] at h
              obtain ⟨rfl, -⟩ := hm
              exact Nat.le_trans (ih _ _ _ _ _ _ _ _ hy) (ih _ _ _ _ _ _ _ _ h)
        · dsimp only at h
          cases h
          exact Nat.le_of_eq (congrArg Prod.fst hm.symm)
/-- from a body: the contract -/
theorem jm_met_of {l : Launch} {θ : jm_T} {d f : Nat} {ν : jm_Md} {As : List Value} {M : jm_M} {r : Option Value} {M' : jm_M} (hm : ∃ (k n q : Nat), (k, ν, n, q) ∈ jm_mthT) (hl : (jm_args As).length ≤ ν.2.2.1)
    (body : ∀ (p : Program) (e : Env) (s : State) (m : MethodId) (args : Array Value) (below : List Frame) (meth : Method) (c : Code), jm_X θ ν p s m args meth c → jm_V p l e (jm_rm d M M') s m args below meth c (MQ below (jm_Qc θ r M') args s (M'.1 - M.1) (jm_sl M'.1 - jm_sl M.1) (jm_F θ)) θ ν M.1 (0, jm_loc ν As, [], M)) : jm_Met l θ d ν As M r M' := by
  obtain ⟨k, n, q, hin⟩ := hm
  obtain ⟨g1, g2, g3, g4, g5, -⟩ := jm_goodM _ hin
  refine Met.ofW (cc := ν.2.1) (maxL := ν.2.2.1) (ret := ν.2.2.2.1) g5 rfl ?_
  intro p e s m args below meth c s₁ B hml hv
  obtain ⟨rfl, hH, hQ⟩ := hv
  have hown : s.vm.findClass (jm_own ν.2.2.2.2) = some m.cls := by
    have := findClass_of_methodNamed B.named
    dsimp only at g4
    rw [g4] at this
    exact this
  have C : jm_X θ ν p s m (As.map (jm_cv θ)).toArray meth c := ⟨B.exec, B.bytes, B.returns, B.notSynchronized, hml, hown, atoms_spec (ws := jm_ws ν) B.pre, hQ, (name_of_methodNamed B.named B.method).1, hH.1⟩
  have := body p e s m (As.map (jm_cv θ)).toArray below meth c C s.heap [] _ hH va_S.rf (jm_Lo_entry hl)
  rw [lg_entry_eq]
  exact jm_W_cells (Nat.sub_self _).symm (Nat.sub_self _).symm this
theorem jm_sound_body : ∀ (f d : Nat) (μ : jm_Md) (pc : Nat) (L S : List Value) (M : jm_M) (rE : Option Value) (ME : jm_M), jm_run d f μ pc L S M = some (rE, ME) → ∀ (p : Program) (l : Launch) (e : Env) (s : State) (m : MethodId) (args : Array Value) (below : List Frame) (meth : Method) (c : Code) (θ : jm_T) (M0 : jm_M), jm_X θ μ p s m args meth c → M0.1 ≤ M.1 → jm_V p l e (jm_rm d M0 ME) s m args below meth c (MQ below (jm_Qc θ rE ME) args s (ME.1 - M0.1) (jm_sl ME.1 - jm_sl M0.1) (jm_F θ)) θ μ M0.1 (pc, L, S, M) := by
  intro f
  induction f with
  | zero => intro d μ pc L S M rE ME h; simp [jm_run] at h
  | succ f ih =>
    intro d μ pc L S M rE ME h p l e s m args below meth c θ M0 C hM
    unfold jm_run at h
    cases hd : decode μ.2.1 pc with
    | error => rw [hd] at h; simp at h
    | ok x =>
      obtain ⟨i, n⟩ := x
      rw [hd] at h
      dsimp only at h
      cases hx : jm_ex d μ i n pc L S M with
      | none => rw [hx] at h; simp at h
      | some nx =>
        rw [hx] at h
        have hm := jm_ex_mo hx
        refine jm_sI C rfl rfl rfl hM hd hx ?_
        rcases nx with ⟨pc', L', S', M1⟩ | ⟨ν, As, pc', L', S', M1⟩ | a
        · exact ⟨jm_run_mono _ _ _ _ _ _ _ _ _ h, ih _ _ _ _ _ _ _ _ h p l e s m args below meth c θ M0 C (Nat.le_trans hM hm)⟩
        · cases d with
          | zero => simp at h
          | succ d' =>
            dsimp only at h
            cases hy : jm_run d' f ν 0 (jm_loc ν As) [] M1 with
            | none => rw [hy] at h; simp at h
            | some w =>
              obtain ⟨r1, M2⟩ := w
              rw [hy] at h
              obtain ⟨rfl, hin, hla⟩ := hm
              have h12 := jm_run_mono _ _ _ _ _ _ _ _ _ hy
              refine ⟨d', r1, M2, rfl, h12, jm_run_mono _ _ _ _ _ _ _ _ _ h, ?_, ih _ _ _ _ _ _ _ _ h p l e s m args below meth c θ M0 C (Nat.le_trans hM h12)⟩
              exact jm_met_of (f := f) hin hla (fun p e s m args below meth c C => ih _ _ _ _ _ _ _ _ hy p l e s m args below meth c θ M1 C (Nat.le_refl _))
        · dsimp only at h
          exact Option.some.inj h
/-- what the little machine comes to, the method comes to -/
theorem jm_sound {l : Launch} {θ : jm_T} {d : Nat} {ν : jm_Md} {As : List Value} {M : jm_M} {r : Option Value} {M' : jm_M} (hm : ∃ (k n q : Nat), (k, ν, n, q) ∈ jm_mthT) (hl : (jm_args As).length ≤ ν.2.2.1) (h : jm_K d ν As M = some (r, M')) : jm_Met l θ d ν As M r M' := by
  obtain ⟨f, hf⟩ := jm_R_iff.mp h
  exact jm_met_of (f := f) hm hl (fun p e s m args below meth c C => jm_sound_body _ _ _ _ _ _ _ _ _ hf p l e s m args below meth c θ M C (Nat.le_refl _))
