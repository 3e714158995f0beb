/-! the little machine's memory in the heap -/
abbrev jm_T : Type := Nat × va_G × (ClassId × ClassId × ClassId × ClassId) × (Nat → Nat)
def jm_ad (θ : jm_T) (k : Nat) : Nat := if k < 5000 then θ.1 + k else θ.2.2.2 (k - 5000)
def jm_cv (θ : jm_T) : Value → Value
  | .ref k => .ref (jm_ad θ k)
  | v => v
def jm_rq (θ : jm_T) (r : Option Nat) : Option Nat := r.map (jm_ad θ)
def jm_fv (θ : jm_T) (M : jm_M) (c a j : Nat) : Value := match jm_rf c j with
  | true => va_rf (jm_rq θ (M.2.2 a j))
  | false => .int (M.2.1 a j)
def jm_E (θ : jm_T) (M : jm_M) (a : Nat) : va_E :=
  if jm_kd a < 8 then .inr (jm_kd a, (List.range (jm_ln a)).map (jm_fv θ M (jm_kd a) a))
  else if jm_kd a = 8 then .inl (θ.2.2.1.1, jm_ln a, .inl (M.2.1 a))
  else if jm_kd a = 9 then .inl (θ.2.2.1.2.1, jm_ln a, .inl (M.2.1 a))
  else if jm_kd a = 10 then .inl (θ.2.2.1.2.2.1, jm_ln a, .inr (.inr (.inr (.inr (fun j => jm_rq θ (M.2.2 a j))))))
  else .inl (θ.2.2.1.2.2.2, jm_ln a, .inr (.inr (.inr (.inr (fun j => jm_rq θ (M.2.2 a j))))))
def jm_W (θ : jm_T) (M : jm_M) : va_W := (List.range M.1).map (fun k => (θ.1 + k, jm_E θ M k))
abbrev jm_F (θ : jm_T) : Nat → Prop := fun q => θ.1 ≤ q
def jm_tys (θ : jm_T) : List (ClassId × FieldType) := [(θ.2.2.1.1, .int), (θ.2.2.1.2.1, .boolean), (θ.2.2.1.2.2.1, .object "SpringIsle$Isle"), (θ.2.2.1.2.2.2, .array .int)]
def jm_sn (s : Nat) : String := ["NEXT_KIND", "SIZE_BODY", "MARK_BODY"].getD s ""
def jm_Z (θ : jm_T) (U : State) (H : Heap) : Prop := ∀ s, s < 3 → va_Z RX1 (jm_sn s) "[I" (.ref (θ.2.2.2 s)) (jm_F θ) U H ∧ va_T .int (θ.2.2.2 s) 6 (fun j => .int (jm_sv s j)) (jm_F θ) U H
def jm_nestL : List (Nat × jm_Md × Nat × Nat) := jm_mthT.filter (fun e => decide (3 ≤ e.2.2.2))
def jm_nw (e : Nat × jm_Md × Nat × Nat) : Cond := .methodLinkNest (jm_own (e.1 / 1000)) (e.1 % 1000) e.2.1.1 RX6
def jm_Nw (U : State) : Prop := ∀ e ∈ jm_nestL, va_Nw (jm_nw e) U
def jm_Ao (U : State) : Prop := va_AO "SpringIsle$Isle" U ∧ (Cond.arrayOver (.array .int)).before #[] U = true
def jm_Q (θ : jm_T) (U : State) (H : Heap) : Prop := va_K θ.2.1 vwCl (jm_tys θ) U ∧ jm_Nw U ∧ jm_Z θ U H ∧ jm_Ao U
/-- the heap holds the memory -/
def jm_H (θ : jm_T) (M : jm_M) (H : Heap) : Prop := θ.1 ≤ H.size ∧ (M.1 < 230 → H.size = θ.1 + M.1) ∧ M.1 ≤ 230 ∧ va_P θ.2.1 vwCl (jm_W θ M) H
def jm_Lo (θ : jm_T) (nL : Nat) (ls : Array Slot) (L : List Value) : Prop := ls.size = nL ∧ lv_wf ls ∧ L.length = nL ∧ ∀ (i : Nat) (v : Value), L[i]? = some v → v ≠ .null → ls[i]? = some (.val (jm_cv θ v))
theorem jm_kd_lt {a : Nat} (h : jm_kd a < 99) : a < 230 := by
  rcases Nat.lt_or_ge a 230 with q | q
  · exact q
  · have : jm_kd a = 99 := by
      unfold jm_kd
      rw [List.getD_eq_getElem?_getD, List.getElem?_eq_none]
      · rfl
      · have : jm_kdL.length = 230 := by decide +kernel
        omega
    omega
theorem jm_is_iff {M : jm_M} {a k : Nat} (h : jm_is M a k = true) : a < M.1 ∧ jm_kd a = k := by
  unfold jm_is at h
  rw [Bool.and_eq_true, decide_eq_true_eq, decide_eq_true_eq] at h
  exact h
theorem jm_ad_lt {θ : jm_T} {a : Nat} (h : a < 5000) : jm_ad θ a = θ.1 + a := if_pos h
theorem jm_W_get {θ : jm_T} {M : jm_M} {a : Nat} (h : a < M.1) : (jm_W θ M)[a]? = some (θ.1 + a, jm_E θ M a) := by
  unfold jm_W
  rw [List.getElem?_map, List.getElem?_range h]
  rfl
theorem jm_W_D {θ : jm_T} {M : jm_M} : va_D (jm_F θ) (jm_W θ M) := by
  have key : ∀ (i : Nat) (q : Nat × va_E), (jm_W θ M)[i]? = some q → i < M.1 ∧ q.1 = θ.1 + i := by
    intro i q h
    have hl : i < M.1 := by
      have := (List.getElem?_eq_some_iff.mp h).1
      simpa [jm_W] using this
    rw [jm_W_get hl] at h
    cases h
    exact ⟨hl, rfl⟩
  refine ⟨fun i j p q hp hq e => ?_, fun k q h => ?_⟩
  · have := (key i p hp).2
    have := (key j q hq).2
    omega
  · show θ.1 ≤ q.1
    have := (key k q h).2
    omega
theorem jm_W_set {θ : jm_T} {M M' : jm_M} {a : Nat} {e : va_E} (ha : a < M.1) (hn : M'.1 = M.1) (he : jm_E θ M' a = e) (ho : ∀ b, b ≠ a → jm_E θ M' b = jm_E θ M b) : (jm_W θ M).set a (θ.1 + a, e) = jm_W θ M' := by
  apply List.ext_getElem?
  intro i
  rw [List.getElem?_set]
  by_cases hi : a = i
  · subst hi
    have hl : a < (jm_W θ M).length := by simpa [jm_W] using ha
    rw [if_pos rfl, if_pos hl, jm_W_get (by omega), he]
  · rw [if_neg hi]
    rcases Nat.lt_or_ge i M.1 with q | q
    · rw [jm_W_get q, jm_W_get (by omega), ho i (fun z => hi z.symm)]
    · rw [List.getElem?_eq_none (by simpa [jm_W] using q), List.getElem?_eq_none (by simpa [jm_W, hn] using q)]
theorem jm_W_push {θ : jm_T} {M M' : jm_M} {e : va_E} (hn : M'.1 = M.1 + 1) (he : jm_E θ M' M.1 = e) (ho : ∀ b, b < M.1 → jm_E θ M' b = jm_E θ M b) : jm_W θ M ++ [(θ.1 + M.1, e)] = jm_W θ M' := by
  unfold jm_W
  rw [hn, List.range_succ, List.map_append]
  congr 1
  · apply List.map_congr_left
    intro b hb
    rw [ho b (List.mem_range.mp hb)]
  · simp [he]
theorem jm_rv_cv (θ : jm_T) (r : Option Nat) : jm_cv θ (jm_rv r) = va_rf (jm_rq θ r) := by
  cases r <;> rfl
theorem jm_ln_inv {n k : Nat} {x : Option jm_N} {y : jm_N} (h : jm_ln' n k x = some y) : n = k ∧ x = some y := by
  unfold jm_ln' at h
  by_cases q : n = k
  · rw [decide_eq_true q] at h; exact ⟨q, h⟩
  · rw [decide_eq_false q] at h; cases h
theorem jm_if_inv {b : Bool} {x : Option jm_N} {y : jm_N} (h : jm_if b x none = some y) : b = true ∧ x = some y := by
  cases b
  · cases h
  · exact ⟨rfl, h⟩
theorem jm_if_invN {b : Bool} {x : Option jm_N} {y : jm_N} (h : jm_if b none x = some y) : b = false ∧ x = some y := by
  cases b
  · exact ⟨rfl, h⟩
  · cases h
theorem jm_look_mem {α : Type} {k : Nat} {l : List (Nat × α)} {x : α} (h : jm_look k l = some x) : (k, x) ∈ l := by
  induction l with
  | nil => cases h
  | cons q r ih =>
    obtain ⟨a, b⟩ := q
    unfold jm_look at h
    by_cases hq : a = k
    · rw [if_pos hq] at h; cases h; subst hq; exact List.mem_cons_self
    · rw [if_neg hq] at h; exact List.mem_cons_of_mem _ (ih h)
theorem jm_Lo_at {θ : jm_T} {nL : Nat} {ls : Array Slot} {L : List Value} (h : jm_Lo θ nL ls L) {i : Nat} {v : Value} (hi : L[i]? = some v) (hv : v ≠ .null) : ls[i]? = some (.val (jm_cv θ v)) := h.2.2.2 i v hi hv
theorem jm_cat (θ : jm_T) (v : Value) : (jm_cv θ v).category = v.category := by cases v <;> rfl
theorem jm_clr_len (L : List Value) (i : Nat) : (jm_clr L i).length = L.length := by
  unfold jm_clr
  split
  · rfl
  · split <;> simp
theorem jm_clr_get {L : List Value} {i j : Nat} {v : Value} (h : (jm_clr L i)[j]? = some v) (hv : v ≠ .null) : L[j]? = some v ∧ (j + 1 = i → v.category = 1) := by
  have key : ∀ k, (L.set k .null)[j]? = some v → k < L.length → L[j]? = some v ∧ j ≠ k := by
    intro k h hl
    rw [List.getElem?_set] at h
    by_cases q : k = j
    · subst q
      rw [if_pos rfl, if_pos hl] at h
      cases h
      exact absurd rfl hv
    · rw [if_neg q] at h
      exact ⟨h, fun z => q z.symm⟩
  unfold jm_clr at h
  cases i with
  | zero => exact ⟨h, fun q => absurd q (by omega)⟩
  | succ k =>
    dsimp only at h
    split at h
    · rename_i x hx
      obtain ⟨h1, h2⟩ := key k h (List.getElem?_eq_some_iff.mp hx).1
      exact ⟨h1, fun z => absurd (by omega) h2⟩
    · rename_i x hx
      obtain ⟨h1, h2⟩ := key k h (List.getElem?_eq_some_iff.mp hx).1
      exact ⟨h1, fun z => absurd (by omega) h2⟩
    · rename_i hx hy
      refine ⟨h, fun q => ?_⟩
      have : j = k := by omega
      subst this
      cases v with
      | long x => exact absurd h (hx x)
      | double x => exact absurd h (hy x)
      | _ => rfl
def jm_lv (θ : jm_T) : Nat → List Value → List (Nat × Value)
  | _, [] => []
  | n, v :: r => if v = .null then jm_lv θ (n + 1) r else (n, jm_cv θ v) :: jm_lv θ (n + 1) r
theorem jm_lv_mem {θ : jm_T} : ∀ (L : List Value) (n k : Nat) (x : Value), (k, x) ∈ jm_lv θ n L ↔ ∃ (i : Nat) (v : Value), k = n + i ∧ L[i]? = some v ∧ v ≠ .null ∧ x = jm_cv θ v
  | [], n, k, x => by simp [jm_lv]
  | w :: r, n, k, x => by
    have ih := jm_lv_mem (θ := θ) r (n + 1) k x
    have shift : (∃ (i : Nat) (v : Value), k = n + 1 + i ∧ r[i]? = some v ∧ v ≠ .null ∧ x = jm_cv θ v) ↔ ∃ (i : Nat) (v : Value), k = n + (i + 1) ∧ (w :: r)[i + 1]? = some v ∧ v ≠ .null ∧ x = jm_cv θ v := by
      constructor
      · rintro ⟨i, v, h1, h2, h3⟩
        exact ⟨i, v, by omega, by simpa using h2, h3⟩
      · rintro ⟨i, v, h1, h2, h3⟩
        exact ⟨i, v, by omega, by simpa using h2, h3⟩
    unfold jm_lv
    by_cases hw : w = .null
    · rw [if_pos hw, ih, shift]
      constructor
      · rintro ⟨i, v, h⟩
        exact ⟨i + 1, v, h⟩
      · rintro ⟨i, v, h1, h2, h3, h4⟩
        cases i with
        | zero => simp at h2; exact absurd (h2 ▸ hw) h3
        | succ i => exact ⟨i, v, h1, h2, h3, h4⟩
    · rw [if_neg hw, List.mem_cons, ih, shift]
      constructor
      · rintro (h | ⟨i, v, h⟩)
        · cases h
          exact ⟨0, w, rfl, rfl, hw, rfl⟩
        · exact ⟨i + 1, v, h⟩
      · rintro ⟨i, v, h1, h2, h3, h4⟩
        cases i with
        | zero =>
          simp at h2
          subst h2
          exact Or.inl (by rw [h1, h4]; rfl)
        | succ i => exact Or.inr ⟨i, v, h1, h2, h3, h4⟩
theorem jm_Lo.has {θ : jm_T} {nL : Nat} {ls : Array Slot} {L : List Value} (h : jm_Lo θ nL ls L) : lv_has ls nL (jm_lv θ 0 L) := by
  refine ⟨h.1, h.2.1, fun q hq => ?_⟩
  obtain ⟨k, x⟩ := q
  obtain ⟨i, v, h1, h2, h3, h4⟩ := (jm_lv_mem L 0 k x).mp hq
  have : k = i := by omega
  subst this
  rw [h4]
  exact h.2.2.2 k v h2 h3
theorem jm_Lo.of1 {θ : jm_T} {nL : Nat} {ls : Array Slot} {L : List Value} {i : Nat} {v : Value} (hL : L.length = nL) (hi : i < nL) (h : lv_has ls nL ((i, jm_cv θ v) :: (jm_lv θ 0 L).filter (fun q => !(q.1 == i) && !(q.1 + 1 == i && q.2.category == 2)))) : jm_Lo θ nL ls (jm_st1 L i v) := by
  refine ⟨h.1, h.2.1, by unfold jm_st1; rw [List.length_set, jm_clr_len, hL], fun j w hj hw => ?_⟩
  unfold jm_st1 at hj
  rw [List.getElem?_set] at hj
  by_cases q : i = j
  · subst q
    rw [if_pos rfl, if_pos (by rw [jm_clr_len, hL]; exact hi)] at hj
    cases hj
    exact h.2.2 (i, jm_cv θ v) List.mem_cons_self
  · rw [if_neg q] at hj
    obtain ⟨h1, h2⟩ := jm_clr_get hj hw
    refine h.2.2 (j, jm_cv θ w) (List.mem_cons_of_mem _ (List.mem_filter.mpr ⟨(jm_lv_mem L 0 j _).mpr ⟨j, w, by omega, h1, hw, rfl⟩, ?_⟩))
    have e1 : (j == i) = false := by simpa using fun z => q z.symm
    by_cases z : j + 1 = i
    · simp [e1, z, jm_cat, h2 z]
    · simp [e1, z]
theorem jm_Lo.of2 {θ : jm_T} {nL : Nat} {ls : Array Slot} {L : List Value} {i : Nat} {v : Value} (hL : L.length = nL) (hi : i + 1 < nL) (h : lv_has ls nL ((i, jm_cv θ v) :: (jm_lv θ 0 L).filter (fun q => !(q.1 == i) && (!(q.1 == i + 1) && !(q.1 + 1 == i && q.2.category == 2))))) : jm_Lo θ nL ls (jm_st2 L i v) := by
  refine ⟨h.1, h.2.1, by unfold jm_st2; rw [List.length_set, List.length_set, jm_clr_len, hL], fun j w hj hw => ?_⟩
  unfold jm_st2 at hj
  rw [List.getElem?_set] at hj
  by_cases q1 : i + 1 = j
  · subst q1
    rw [if_pos rfl] at hj
    split at hj
    · cases hj
      exact absurd rfl hw
    · cases hj
  rw [if_neg q1] at hj
  rw [List.getElem?_set] at hj
  by_cases q : i = j
  · subst q
    rw [if_pos rfl, if_pos (by rw [jm_clr_len, hL]; omega)] at hj
    cases hj
    exact h.2.2 (i, jm_cv θ v) List.mem_cons_self
  · rw [if_neg q] at hj
    obtain ⟨h1, h2⟩ := jm_clr_get hj hw
    refine h.2.2 (j, jm_cv θ w) (List.mem_cons_of_mem _ (List.mem_filter.mpr ⟨(jm_lv_mem L 0 j _).mpr ⟨j, w, by omega, h1, hw, rfl⟩, ?_⟩))
    have e1 : (j == i) = false := by simpa using fun z => q z.symm
    have e2 : (j == i + 1) = false := by simpa using fun z => q1 z.symm
    by_cases z : j + 1 = i
    · simp [e1, e2, z, jm_cat, h2 z]
    · simp [e1, e2, z]
theorem jm_lv_args {θ : jm_T} : ∀ (As : List Value) (n k : Nat) (v : Value), (jm_args As)[k]? = some v → v ≠ .null → (n + k, jm_cv θ v) ∈ lv_args n (As.map (jm_cv θ))
  | [], n, k, v, h, hv => by simp [jm_args] at h
  | w :: r, n, k, v, h, hv => by
    have e2 : lv_args n ((w :: r).map (jm_cv θ)) = (n, jm_cv θ w) :: lv_args (if (jm_cv θ w).category = 2 then n + 2 else n + 1) (r.map (jm_cv θ)) := rfl
    rw [e2, jm_cat]
    unfold jm_args at h
    by_cases hw : w.category = 2
    · rw [if_pos hw] at h ⊢
      match k, h with
      | 0, h => cases h; exact List.mem_cons_self
      | 1, h => cases h; exact absurd rfl hv
      | k + 2, h =>
        have ih := jm_lv_args (θ := θ) r (n + 2) k v (by simpa using h) hv
        rw [show n + 2 + k = n + (k + 2) by omega] at ih
        exact List.mem_cons_of_mem _ ih
    · rw [if_neg hw] at h ⊢
      match k, h with
      | 0, h => cases h; exact List.mem_cons_self
      | k + 1, h =>
        have ih := jm_lv_args (θ := θ) r (n + 1) k v (by simpa using h) hv
        rw [show n + 1 + k = n + (k + 1) by omega] at ih
        exact List.mem_cons_of_mem _ ih
theorem jm_args_len {θ : jm_T} : ∀ (As : List Value), (lg_sl (As.map (jm_cv θ))).length = (jm_args As).length
  | [] => rfl
  | w :: r => by
    have ih := jm_args_len (θ := θ) r
    have e : lg_sl ((w :: r).map (jm_cv θ)) = (if (jm_cv θ w).category = 2 then [Slot.val (jm_cv θ w), Slot.second] else [Slot.val (jm_cv θ w)]) ++ lg_sl (r.map (jm_cv θ)) := by simp [lg_sl]
    have e3 : jm_args (w :: r) = if w.category = 2 then w :: .null :: jm_args r else w :: jm_args r := rfl
    rw [e, List.length_append, ih, jm_cat, e3]
    by_cases hw : w.category = 2
    · rw [if_pos hw, if_pos hw]; simp; omega
    · rw [if_neg hw, if_neg hw]; simp; omega
theorem jm_Lo_entry {θ : jm_T} {μ : jm_Md} {As : List Value} (h : (jm_args As).length ≤ μ.2.2.1) : jm_Lo θ μ.2.2.1 ((lg_sl (As.map (jm_cv θ)) ++ List.replicate (μ.2.2.1 - (lg_sl (As.map (jm_cv θ))).length) Slot.unset).toArray) (jm_loc μ As) := by
  have h1 := lv_entry (As.map (jm_cv θ)) (n := μ.2.2.1) (by rw [jm_args_len]; exact h)
  refine ⟨h1.1, h1.2.1, by unfold jm_loc; rw [List.length_append, List.length_replicate]; omega, fun i v hi hv => ?_⟩
  unfold jm_loc at hi
  rcases Nat.lt_or_ge i (jm_args As).length with q | q
  · rw [List.getElem?_append_left q] at hi
    have := jm_lv_args (θ := θ) As 0 i v hi hv
    rw [Nat.zero_add] at this
    exact h1.2.2 _ this
  · rw [List.getElem?_append_right q, List.getElem?_replicate] at hi
    split at hi
    · cases hi
      exact absurd rfl hv
    · cases hi
