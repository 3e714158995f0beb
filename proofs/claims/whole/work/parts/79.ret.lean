/-! what a method answers is of the kind that it says -/
def jm_Rt (μ : jm_Md) (r : Option Value) : Prop := (μ.2.2.2.1 = some .int → ∃ v, r = some (.int v)) ∧ (μ.2.2.2.1 = some .long → ∃ v, r = some (.long v))
def jm_Nr : jm_N → Prop
  | .inr (.inr _) => False
  | _ => True
def jm_Nt (μ : jm_Md) : jm_N → Prop
  | .inr (.inr a) => jm_Rt μ a.1
  | _ => True
theorem jm_Nr.nt {μ : jm_Md} {nx : jm_N} (h : jm_Nr nx) : jm_Nt μ nx := by
  rcases nx with a | a | a
  · trivial
  · trivial
  · exact absurd h id
theorem jm_Nr_call {ν : jm_Md} {As : List Value} {pc : Nat} {L S : List Value} {M : jm_M} {nx : jm_N} (h : jm_call ν As pc L S M = some nx) : jm_Nr nx := by
  obtain ⟨-, -, rfl⟩ := jm_call_inv h
  exact trivial
theorem jm_Nr_invs {d : Nat} {μ : jm_Md} {idx pc : Nat} {L S : List Value} {M : jm_M} {nx : jm_N} (h : jm_invs d μ idx pc L S M = some nx) : jm_Nr nx := by
  unfold jm_invs at h
  cases hc : jm_cpyT.contains (jm_key μ idx) with
  | true =>
    rw [hc] at h
    change jm_cpyx d pc L S M = some nx at h
    unfold jm_cpyx at h
    split at h
    · obtain ⟨-, h⟩ := jm_if_inv h
      cases h; exact trivial
    · cases h
  | false =>
  rw [hc] at h
  cases hc2 : jm_maxT.contains (jm_key μ idx) with
  | true =>
    rw [hc2] at h
    change jm_mmx true d pc L S M = some nx at h
    unfold jm_mmx at h
    split at h
    · obtain ⟨-, h⟩ := jm_if_inv h
      cases h; exact trivial
    · cases h
  | false =>
  rw [hc2] at h
  cases hc3 : jm_minT.contains (jm_key μ idx) with
  | true =>
    rw [hc3] at h
    change jm_mmx false d pc L S M = some nx at h
    unfold jm_mmx at h
    split at h
    · obtain ⟨-, h⟩ := jm_if_inv h
      cases h; exact trivial
    · cases h
  | false =>
  rw [hc3] at h
  unfold jm_if at h
  dsimp only at h
  split at h
  · split at h
    · obtain ⟨-, h⟩ := jm_if_inv h
      exact jm_Nr_call h
    · cases h
  · cases h
theorem jm_Nr_invv {μ : jm_Md} {idx pc : Nat} {L S : List Value} {M : jm_M} {nx : jm_N} (h : jm_invv μ idx pc L S M = some nx) : jm_Nr nx := by
  unfold jm_invv at h
  split at h
  · split at h
    · obtain ⟨-, h⟩ := jm_if_inv h
      exact jm_Nr_call h
    · cases h
  · cases h
theorem jm_Nr_invi {d : Nat} {μ : jm_Md} {idx pc : Nat} {L S : List Value} {M : jm_M} {nx : jm_N} (h : jm_invi d μ idx pc L S M = some nx) : jm_Nr nx := by
  unfold jm_invi at h
  cases hc : jm_objT.contains (jm_key μ idx) with
  | true =>
    rw [hc] at h
    unfold jm_if at h
    dsimp only at h
    split at h
    · obtain ⟨-, h⟩ := jm_if_inv h
      cases h; exact trivial
    · cases h
  | false =>
  rw [hc] at h
  unfold jm_if at h
  dsimp only at h
  split at h
  · split at h
    · obtain ⟨-, h⟩ := jm_if_inv h
      exact jm_Nr_call h
    · cases h
  · cases h
theorem jm_Nt_ret {μ : jm_Md} {S : List Value} {M : jm_M} {nx : jm_N} (h : jm_ret μ S M = some nx) : jm_Nt μ nx := by
  unfold jm_ret at h
  split at h
  · split at h
    · rename_i hr
      cases h
      exact ⟨fun _ => ⟨_, rfl⟩, fun e => by rw [hr] at e; cases e⟩
    · rename_i hr
      obtain ⟨-, h⟩ := jm_if_inv h
      cases h
      exact ⟨fun _ => ⟨_, rfl⟩, fun e => by rw [hr] at e; cases e⟩
    · cases h
  · cases h
theorem jm_Nt_retl {μ : jm_Md} {S : List Value} {M : jm_M} {nx : jm_N} (h : jm_retl μ S M = some nx) : jm_Nt μ nx := by
  unfold jm_retl at h
  split at h
  · rename_i hr
    cases h
    exact ⟨fun e => (by rw [hr] at e; cases e), fun _ => ⟨_, rfl⟩⟩
  · cases h
theorem jm_Nt_reta {μ : jm_Md} {S : List Value} {M : jm_M} {nx : jm_N} (h : jm_reta μ S M = some nx) : jm_Nt μ nx := by
  unfold jm_reta at h
  split at h
  · rename_i hr
    cases h
    exact ⟨fun e => (by rw [hr] at e; cases e), fun e => by rw [hr] at e; cases e⟩
  · cases h
theorem jm_Nt_retv {μ : jm_Md} {S : List Value} {M : jm_M} {nx : jm_N} (h : jm_retv μ S M = some nx) : jm_Nt μ nx := by
  unfold jm_retv at h
  split at h
  · rename_i hr
    cases h
    exact ⟨fun e => (by rw [hr] at e; cases e), fun e => by rw [hr] at e; cases e⟩
  · cases h
set_option maxHeartbeats 4000000 in
theorem jm_ex_rt {d : Nat} {μ : jm_Md} {i : Instr} {n pc : Nat} {L S : List Value} {M : jm_M} {nx : jm_N} (h : jm_ex d μ i n pc L S M = some nx) : jm_Nt μ nx := by
  cases i
  case invokestatic k => obtain ⟨rfl, h⟩ := jm_ln_inv h; exact (jm_Nr_invs h).nt
  case invokevirtual k => obtain ⟨rfl, h⟩ := jm_ln_inv h; exact (jm_Nr_invv h).nt
  case invokespecial k => obtain ⟨rfl, h⟩ := jm_ln_inv h; exact (jm_Nr_invi h).nt
  case ireturn => obtain ⟨rfl, h⟩ := jm_ln_inv h; exact jm_Nt_ret h
  case lreturn => obtain ⟨rfl, h⟩ := jm_ln_inv h; exact jm_Nt_retl h
  case areturn => obtain ⟨rfl, h⟩ := jm_ln_inv h; exact jm_Nt_reta h
  case return_ => obtain ⟨rfl, h⟩ := jm_ln_inv h; exact jm_Nt_retv h
  case multianewarray k dm => match dm, h with
    | 2, h =>
      obtain ⟨-, h2⟩ := jm_ln_inv h
      unfold jm_grid at h2
      split at h2
      · obtain ⟨-, h3⟩ := jm_if_inv h2
        cases h3; exact trivial
      · cases h2
    | 0, h => cases h
    | 1, h => cases h
    | _ + 3, h => cases h
  all_goals first
    | (cases h; done)
    | (simp only [jm_ex, jm_ln', jm_if, jm_ldI, jm_ldL, jm_ldA, jm_siI, jm_siL, jm_siA, jm_un, jm_bi, jm_dv, jm_bl, jm_dl, jm_getf, jm_putf, jm_gets, jm_iald, jm_bald, jm_aald, jm_iast, jm_bast, jm_aast, jm_alen, jm_newo, jm_newa, jm_newq, jm_tsw, jm_lsw, jm_dup, jm_dup2, jm_pop1, jm_iinc, jm_lcmp, jm_i2l, jm_l2i, jm_icmp, jm_ifc, jm_ldc, jm_ldc2, jm_to, jm_br, jm_nx] at h
       repeat' split at h
       all_goals first
         | (cases h; done)
         | (cases h; exact trivial))
theorem jm_run_rt : ∀ (f d : Nat) (μ : jm_Md) (pc : Nat) (L S : List Value) (M : jm_M) (r : Option Value) (M' : jm_M), jm_run d f μ pc L S M = some (r, M') → jm_Rt μ r := by
  intro f
  induction f with
  | zero => intro d μ pc L S M r M' h; simp [jm_run] at h
  | succ f ih =>
    intro d μ pc L S M r M' h
    unfold jm_run at h
    cases hd : decode μ.2.1 pc with
    | error => rw [hd] at h; simp at h
    | ok x =>
      obtain ⟨i, n⟩ := x
      rw [hd] at h
      dsimp only at h
      cases hx : jm_ex d μ i n pc L S M with
      | none => rw [hx] at h; simp at h
      | some nx =>
        rw [hx] at h
        have hm := jm_ex_rt hx
        rcases nx with ⟨pc', L', S', M1⟩ | ⟨ν, As, pc', L', S', M1⟩ | a
        · exact ih _ _ _ _ _ _ _ _ h
        · cases d with
          | zero => simp at h
          | succ d' =>
            dsimp only at h
            cases hy : jm_run d' f ν 0 (jm_loc ν As) [] M1 with
            | none => rw [hy] at h; simp at h
            | some w =>
              obtain ⟨r1, M2⟩ := w
              rw [hy] at h
              exact ih _ _ _ _ _ _ _ _ h
        · dsimp only at h
          cases h
          exact hm
theorem jm_K_rt {d : Nat} {μ : jm_Md} {As : List Value} {M : jm_M} {r : Option Value} {M' : jm_M} (h : jm_K d μ As M = some (r, M')) : jm_Rt μ r := by
  obtain ⟨f, hf⟩ := jm_R_iff.mp h
  exact jm_run_rt _ _ _ _ _ _ _ _ _ hf
