/-! what the little machine does, the machine does -/
def jm_G : List Cond := lw_tbl.filter goodWord
def jm_ws (μ : jm_Md) : List Cond := Cond.code μ.1 μ.2.1 μ.2.2.1 μ.2.2.2.1 :: jm_G
def jm_sl (n : Nat) : Nat := (jm_lnL.take n).sum
def jm_rm (d : Nat) (M M' : jm_M) : Room := { frames := d, cells := M'.1 - M.1, slots := jm_sl M'.1 - jm_sl M.1, locals := 60 * d }
def jm_X (θ : jm_T) (μ : jm_Md) (p : Program) (s : State) (m : MethodId) (args : Array Value) (meth : Method) (c : Code) : Prop :=
  p.tables.exec = Jvm.exec ∧ c.code = μ.2.1 ∧ meth.sig.returnType = μ.2.2.2.1 ∧ meth.locks = false ∧ c.maxLocals = μ.2.2.1 ∧ s.vm.findClass (jm_own μ.2.2.2.2) = some m.cls ∧ (∀ w ∈ jm_ws μ, w.before args s = true) ∧ jm_Q θ s s.heap ∧ meth.name = μ.1.name ∧ θ.1 ≤ s.heap.size
def jm_V (p : Program) (l : Launch) (e : Env) (R : Room) (s : State) (m : MethodId) (args : Array Value) (below : List Frame) (meth : Method) (c : Code) (Q : State → Prop) (θ : jm_T) (μ : jm_Md) (n0 : Nat) (cf : jm_C) : Prop := ∀ (H : Heap) (locs : List Loc) (ls : Array Slot), jm_H θ cf.2.2.2 H → va_S (jm_F θ) s.heap H locs → jm_Lo θ μ.2.2.1 ls cf.2.1 → W p l e R s m args below meth c H locs (cf.2.2.2.1 - n0) (jm_sl cf.2.2.2.1 - jm_sl n0) Q (F0 m cf.1 ls (cf.2.2.1.map (jm_cv θ)))
theorem jm_un_inv {f : Int32 → Int32} {pc : Nat} {L S : List Value} {M : jm_M} {nx : jm_N} (h : jm_un f pc L S M = some nx) : ∃ a S', S = .int a :: S' ∧ nx = .inl (pc, L, .int (f a) :: S', M) := by
  unfold jm_un at h; split at h
  · exact ⟨_, _, rfl, (Option.some.inj h).symm⟩
  · cases h
theorem jm_bi_inv {f : Int32 → Int32 → Int32} {pc : Nat} {L S : List Value} {M : jm_M} {nx : jm_N} (h : jm_bi f pc L S M = some nx) : ∃ a b S', S = .int b :: .int a :: S' ∧ nx = .inl (pc, L, .int (f a b) :: S', M) := by
  unfold jm_bi at h; split at h
  · exact ⟨_, _, _, rfl, (Option.some.inj h).symm⟩
  · cases h
theorem jm_dv_inv {f : Int32 → Int32 → Int32} {pc : Nat} {L S : List Value} {M : jm_M} {nx : jm_N} (h : jm_dv f pc L S M = some nx) : ∃ a b S', S = .int b :: .int a :: S' ∧ ¬ b = 0 ∧ nx = .inl (pc, L, .int (f a b) :: S', M) := by
  unfold jm_dv at h; split at h
  · obtain ⟨h1, h2⟩ := jm_if_invN h
    exact ⟨_, _, _, rfl, of_decide_eq_false h1, (Option.some.inj h2).symm⟩
  · cases h
theorem jm_bl_inv {f : Int64 → Int64 → Int64} {pc : Nat} {L S : List Value} {M : jm_M} {nx : jm_N} (h : jm_bl f pc L S M = some nx) : ∃ a b S', S = .long b :: .long a :: S' ∧ nx = .inl (pc, L, .long (f a b) :: S', M) := by
  unfold jm_bl at h; split at h
  · exact ⟨_, _, _, rfl, (Option.some.inj h).symm⟩
  · cases h
theorem jm_dl_inv {f : Int64 → Int64 → Int64} {pc : Nat} {L S : List Value} {M : jm_M} {nx : jm_N} (h : jm_dl f pc L S M = some nx) : ∃ a b S', S = .long b :: .long a :: S' ∧ ¬ b = 0 ∧ nx = .inl (pc, L, .long (f a b) :: S', M) := by
  unfold jm_dl at h; split at h
  · obtain ⟨h1, h2⟩ := jm_if_invN h
    exact ⟨_, _, _, rfl, of_decide_eq_false h1, (Option.some.inj h2).symm⟩
  · cases h
theorem jm_ldI_inv {i pc : Nat} {L S : List Value} {M : jm_M} {nx : jm_N} (h : jm_ldI i pc L S M = some nx) : ∃ x, L[i]? = some (.int x) ∧ nx = .inl (pc, L, .int x :: S, M) := by
  unfold jm_ldI at h; split at h
  · exact ⟨_, by assumption, (Option.some.inj h).symm⟩
  · cases h
theorem jm_ldL_inv {i pc : Nat} {L S : List Value} {M : jm_M} {nx : jm_N} (h : jm_ldL i pc L S M = some nx) : ∃ x, L[i]? = some (.long x) ∧ nx = .inl (pc, L, .long x :: S, M) := by
  unfold jm_ldL at h; split at h
  · exact ⟨_, by assumption, (Option.some.inj h).symm⟩
  · cases h
theorem jm_ldA_inv {i pc : Nat} {L S : List Value} {M : jm_M} {nx : jm_N} (h : jm_ldA i pc L S M = some nx) : ∃ x, L[i]? = some (.ref x) ∧ nx = .inl (pc, L, .ref x :: S, M) := by
  unfold jm_ldA at h; split at h
  · exact ⟨_, by assumption, (Option.some.inj h).symm⟩
  · cases h
theorem jm_siI_inv {i pc : Nat} {L S : List Value} {M : jm_M} {nx : jm_N} (h : jm_siI i pc L S M = some nx) : ∃ x S', S = .int x :: S' ∧ i < L.length ∧ nx = .inl (pc, jm_st1 L i (.int x), S', M) := by
  unfold jm_siI at h; split at h
  · obtain ⟨h1, h2⟩ := jm_if_inv h
    exact ⟨_, _, rfl, of_decide_eq_true h1, (Option.some.inj h2).symm⟩
  · cases h
theorem jm_siL_inv {i pc : Nat} {L S : List Value} {M : jm_M} {nx : jm_N} (h : jm_siL i pc L S M = some nx) : ∃ x S', S = .long x :: S' ∧ i + 1 < L.length ∧ nx = .inl (pc, jm_st2 L i (.long x), S', M) := by
  unfold jm_siL at h; split at h
  · obtain ⟨h1, h2⟩ := jm_if_inv h
    exact ⟨_, _, rfl, of_decide_eq_true h1, (Option.some.inj h2).symm⟩
  · cases h
theorem jm_siA_inv {i pc : Nat} {L S : List Value} {M : jm_M} {nx : jm_N} (h : jm_siA i pc L S M = some nx) : ∃ x S', S = .ref x :: S' ∧ i < L.length ∧ nx = .inl (pc, jm_st1 L i (.ref x), S', M) := by
  unfold jm_siA at h; split at h
  · obtain ⟨h1, h2⟩ := jm_if_inv h
    exact ⟨_, _, rfl, of_decide_eq_true h1, (Option.some.inj h2).symm⟩
  · cases h
theorem jm_to_inv {pc : Nat} {off : Int} {L S : List Value} {M : jm_M} {nx : jm_N} (h : jm_to pc off L S M = some nx) : ∃ t : Nat, (pc : Int) + off = (t : Int) ∧ nx = .inl (t, L, S, M) := by
  unfold jm_to at h; split at h
  · exact ⟨_, by assumption, (Option.some.inj h).symm⟩
  · cases h
