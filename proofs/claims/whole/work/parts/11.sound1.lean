def jm_Pc (θ : jm_T) (As : List Value) (M : jm_M) : Array Value → State → Prop := va_Pc (As.map (jm_cv θ)) (fun U => jm_H θ M U.heap ∧ jm_Q θ U U.heap)
def jm_Qc (θ : jm_T) (r : Option Value) (M : jm_M) : Array Value → State → Outcome → State → Prop := fun _ st oc t => oc = .returned (r.map (jm_cv θ)) ∧ jm_H θ M t.heap ∧ va_F (jm_F θ) st t
def jm_Met (l : Launch) (θ : jm_T) (d : Nat) (ν : jm_Md) (As : List Value) (M : jm_M) (r : Option Value) (M' : jm_M) : Prop := Met l ν.1 (jm_ws ν) (jm_rm d M M') (jm_Pc θ As M) (jm_Qc θ r M') (M'.1 - M.1) (jm_sl M'.1 - jm_sl M.1) (jm_F θ)
theorem jm_Ao.moved {u U : State} (hvm : u.vm.Alike U.vm) (h : jm_Ao u) : jm_Ao U := by
  refine ⟨va_AO.moved hvm h.1, ?_⟩
  obtain ⟨comp, c, k, h1, h2, h3, h4, h5⟩ := arrayOverA_spec h.2
  obtain ⟨k', hk', he⟩ := hvm.2.2 _ _ h3
  have e3 : u.vm.bare = U.vm.bare := by first | exact hvm.bare_eq | exact hvm.bare_eq.symm
  have hi : (U.vm.classes.findIdx? fun (x : Class) => match x.kind with | .array component _ => component == comp | _ => false) = some c := by
    refine Eq.trans (va_idx_bare U.vm comp).symm ?_
    rw [← e3]
    exact (va_idx_bare u.vm comp).trans h2
  have hkind : k'.kind = .array comp (.array .int) := by rw [he]; exact h4
  have f1 : U.vm.findClass (FieldType.array .int).toString = some comp := by rw [hvm.findClass]; exact h1
  have f2 : U.vm.findClass ("[" ++ (FieldType.array .int).toString) = some c := by rw [hvm.findClass]; exact h5
  unfold Cond.before Cond.holds
  simp only [Cond.value]
  rw [f1, Option.bind_some]
  refine (congrArg (fun o : Option Nat => (o.bind (fun c => (U.vm.classes[c]?).map fun (k : Class) => match k.kind with | .array _ ty => decide (ty = FieldType.array .int) && decide (U.vm.findClass ("[" ++ (FieldType.array .int).toString) = some c) | _ => false) == some true)) hi).trans ?_
  simp [hk', hkind, f2]
theorem jm_blind {θ : jm_T} {As : List Value} {M : jm_M} : FrameBlind (jm_Pc θ As M) := by
  intro a U g mk h
  obtain ⟨h1, h2, h3, h4, h5, h6⟩ := h
  exact ⟨h1, h2, va_K.moved (u := U) (U := U.calling g mk a) (Vm.Alike.refl U.vm) h3, fun e he => va_Nw.same rfl (u := U) (U := U.calling g mk a) rfl (h4 e he), fun s hs => ⟨va_Z.moved (u := U) (U := U.calling g mk a) (Vm.Alike.refl U.vm) (h5 s hs).1, va_T.moved (u := U) (U := U.calling g mk a) (Vm.Alike.refl U.vm) (h5 s hs).2⟩, jm_Ao.moved (u := U) (U := U.calling g mk a) (Vm.Alike.refl U.vm) h6⟩
theorem jm_Q.warm {θ : jm_T} {s U : State} {H : Heap} (h : jm_Q θ s s.heap) (hW : s.WarmedH U.vm) (hq : ∀ a : Nat, a < s.heap.size → ¬ jm_F θ a → H[a]? = s.heap[a]?) : jm_Q θ U H :=
  ⟨va_K.moved hW.alike h.1, fun e he => va_Nw.warmM hW (h.2.1 e he), fun k hk => ⟨(va_Z.moved hW.alike (h.2.2.1 k hk).1).kept hq, (va_T.moved hW.alike (h.2.2.1 k hk).2).kept hq⟩, jm_Ao.moved hW.alike h.2.2.2⟩
theorem jm_hd {μ : jm_Md} {k i : Nat} (h : jm_key μ i = k) (hk : k ≠ 0) : μ.2.2.2.2 = k / 1000 ∧ i = k % 1000 := by
  unfold jm_key at h
  by_cases q : i < 1000
  · rw [if_pos q] at h; omega
  · rw [if_neg q] at h; exact absurd h.symm hk
theorem jm_tab_get {c : Nat} (h : c < 8) : vwCl[c]? = some (jm_tab c) := by
  match c, h with
  | 0, _ => rfl
  | 1, _ => rfl
  | 2, _ => rfl
  | 3, _ => rfl
  | 4, _ => rfl
  | 5, _ => rfl
  | 6, _ => rfl
  | 7, _ => rfl
theorem jm_pop_inv : ∀ (n : Nat) (acc S As S' : List Value), jm_pop n acc S = some (As, S') → acc.reverse ++ S = As.reverse ++ S' → True := fun _ _ _ _ _ _ _ => trivial
theorem jm_pop_spec : ∀ (n : Nat) (acc S As S' : List Value), jm_pop n acc S = some (As, S') → As.length = n + acc.length ∧ acc.reverse.reverse.reverse ++ [] = acc.reverse ∧ ∃ P, S = P ++ S' ∧ As = P.reverse ++ acc
  | 0, acc, S, As, S', h => by cases h; exact ⟨by simp, by simp, [], rfl, rfl⟩
  | n + 1, acc, [], As, S', h => by cases h
  | n + 1, acc, v :: S, As, S', h => by
    obtain ⟨h1, -, P, h2, h3⟩ := jm_pop_spec n (v :: acc) S As S' h
    exact ⟨by rw [h1, List.length_cons]; omega, by simp, v :: P, by rw [h2]; rfl, by rw [h3]; simp⟩
theorem jm_cat_le (θ : jm_T) (S : List Value) (h : jm_cs S ≤ 8) : ((S.map (jm_cv θ)).map fun v => v.category).sum ≤ 8 := by
  have key : ∀ S : List Value, ((S.map (jm_cv θ)).map fun v => v.category).sum = jm_cs S := by
    intro S
    induction S with
    | nil => rfl
    | cons v r ih =>
      simp only [List.map_cons, List.sum_cons]
      rw [ih, jm_cat]
      rfl
  rw [key S]
  exact h
section JS
variable {p : Program} {l : Launch} {e : Env} {R : Room} {s : State} {m : MethodId} {args : Array Value} {below : List Frame} {meth : Method} {c : Code} {Q : State → Prop} {θ : jm_T} {μ : jm_Md} {n0 pc n d : Nat} {L S : List Value} {M M0 ME : jm_M} {rE : Option Value} {nx : jm_N}
def jm_Ok (p : Program) (l : Launch) (e : Env) (R : Room) (s : State) (m : MethodId) (args : Array Value) (below : List Frame) (meth : Method) (c : Code) (Q : State → Prop) (θ : jm_T) (μ : jm_Md) (n0 d : Nat) (ME : jm_M) (rE : Option Value) : jm_N → Prop
  | .inl cf => cf.2.2.2.1 ≤ ME.1 ∧ jm_V p l e R s m args below meth c Q θ μ n0 cf
  | .inr (.inl (ν, As, cf)) => ∃ (d1 : Nat) (r1 : Option Value) (M1 : jm_M), d = d1 + 1 ∧ cf.2.2.2.1 ≤ M1.1 ∧ M1.1 ≤ ME.1 ∧ jm_Met l θ d1 ν As cf.2.2.2 r1 M1 ∧ jm_V p l e R s m args below meth c Q θ μ n0 (cf.1, cf.2.1, r1.toList ++ cf.2.2.1, M1)
  | .inr (.inr a) => a = (rE, ME)
theorem jm_s_iconst (C : jm_X θ μ p s m args meth c) {z : Int} (hd : decode μ.2.1 pc = .ok (.iconst z, 1)) (hx : jm_nx (pc + 1) L (.int (Int32.ofInt z) :: S) M = some nx) (ok : jm_Ok p l e R s m args below meth c Q θ μ n0 d ME rE nx) : jm_V p l e R s m args below meth c Q θ μ n0 (pc, L, S, M) := by
  cases hx
  intro H locs ls h1 h2 h3
  exact lv_iconst C.1 C.2.1 hd rfl (ok.2 H locs ls h1 h2 h3)
theorem jm_s_bipush (C : jm_X θ μ p s m args meth c) {z : Int} (hd : decode μ.2.1 pc = .ok (.bipush z, 2)) (hx : jm_nx (pc + 2) L (.int (Int8.ofInt z).toInt32 :: S) M = some nx) (ok : jm_Ok p l e R s m args below meth c Q θ μ n0 d ME rE nx) : jm_V p l e R s m args below meth c Q θ μ n0 (pc, L, S, M) := by
  cases hx
  intro H locs ls h1 h2 h3
  exact lv_bipush C.1 C.2.1 hd rfl (ok.2 H locs ls h1 h2 h3)
theorem jm_s_sipush (C : jm_X θ μ p s m args meth c) {z : Int} (hd : decode μ.2.1 pc = .ok (.sipush z, 3)) (hx : jm_nx (pc + 3) L (.int (Int16.ofInt z).toInt32 :: S) M = some nx) (ok : jm_Ok p l e R s m args below meth c Q θ μ n0 d ME rE nx) : jm_V p l e R s m args below meth c Q θ μ n0 (pc, L, S, M) := by
  cases hx
  intro H locs ls h1 h2 h3
  exact lv_sipush C.1 C.2.1 hd rfl (ok.2 H locs ls h1 h2 h3)
theorem jm_s_lconst (C : jm_X θ μ p s m args meth c) {z : Fin 2} (hd : decode μ.2.1 pc = .ok (.lconst z, 1)) (hx : jm_nx (pc + 1) L (.long (Int64.ofNat (z : Nat)) :: S) M = some nx) (ok : jm_Ok p l e R s m args below meth c Q θ μ n0 d ME rE nx) : jm_V p l e R s m args below meth c Q θ μ n0 (pc, L, S, M) := by
  cases hx
  intro H locs ls h1 h2 h3
  exact lv_lconst C.1 C.2.1 hd rfl (ok.2 H locs ls h1 h2 h3)
theorem jm_s_iload_n (C : jm_X θ μ p s m args meth c) {k : Fin 4} (hd : decode μ.2.1 pc = .ok (.iload_n k, 1)) (hx : jm_ldI k (pc + 1) L S M = some nx) (ok : jm_Ok p l e R s m args below meth c Q θ μ n0 d ME rE nx) : jm_V p l e R s m args below meth c Q θ μ n0 (pc, L, S, M) := by
  obtain ⟨x, h, rfl⟩ := jm_ldI_inv hx
  intro H locs ls h1 h2 h3
  exact lv_iload_n C.1 C.2.1 hd rfl (jm_Lo_at h3 h (by simp)) (ok.2 H locs ls h1 h2 h3)
theorem jm_s_iload (C : jm_X θ μ p s m args meth c) {k : Nat} (hd : decode μ.2.1 pc = .ok (.iload k, 2)) (hx : jm_ldI k (pc + 2) L S M = some nx) (ok : jm_Ok p l e R s m args below meth c Q θ μ n0 d ME rE nx) : jm_V p l e R s m args below meth c Q θ μ n0 (pc, L, S, M) := by
  obtain ⟨x, h, rfl⟩ := jm_ldI_inv hx
  intro H locs ls h1 h2 h3
  exact lv_iload C.1 C.2.1 hd (jm_Lo_at h3 h (by simp)) (ok.2 H locs ls h1 h2 h3)
theorem jm_s_lload_n (C : jm_X θ μ p s m args meth c) {k : Fin 4} (hd : decode μ.2.1 pc = .ok (.lload_n k, 1)) (hx : jm_ldL k (pc + 1) L S M = some nx) (ok : jm_Ok p l e R s m args below meth c Q θ μ n0 d ME rE nx) : jm_V p l e R s m args below meth c Q θ μ n0 (pc, L, S, M) := by
  obtain ⟨x, h, rfl⟩ := jm_ldL_inv hx
  intro H locs ls h1 h2 h3
  exact lv_lload_n C.1 C.2.1 hd rfl (jm_Lo_at h3 h (by simp)) (ok.2 H locs ls h1 h2 h3)
theorem jm_s_lload (C : jm_X θ μ p s m args meth c) {k : Nat} (hd : decode μ.2.1 pc = .ok (.lload k, 2)) (hx : jm_ldL k (pc + 2) L S M = some nx) (ok : jm_Ok p l e R s m args below meth c Q θ μ n0 d ME rE nx) : jm_V p l e R s m args below meth c Q θ μ n0 (pc, L, S, M) := by
  obtain ⟨x, h, rfl⟩ := jm_ldL_inv hx
  intro H locs ls h1 h2 h3
  exact lv_lload C.1 C.2.1 hd (jm_Lo_at h3 h (by simp)) (ok.2 H locs ls h1 h2 h3)
theorem jm_s_aload_n (C : jm_X θ μ p s m args meth c) {k : Fin 4} (hd : decode μ.2.1 pc = .ok (.aload_n k, 1)) (hx : jm_ldA k (pc + 1) L S M = some nx) (ok : jm_Ok p l e R s m args below meth c Q θ μ n0 d ME rE nx) : jm_V p l e R s m args below meth c Q θ μ n0 (pc, L, S, M) := by
  obtain ⟨x, h, rfl⟩ := jm_ldA_inv hx
  intro H locs ls h1 h2 h3
  exact lv_aload_n C.1 C.2.1 hd rfl (jm_Lo_at h3 h (by simp)) (ok.2 H locs ls h1 h2 h3)
theorem jm_s_aload (C : jm_X θ μ p s m args meth c) {k : Nat} (hd : decode μ.2.1 pc = .ok (.aload k, 2)) (hx : jm_ldA k (pc + 2) L S M = some nx) (ok : jm_Ok p l e R s m args below meth c Q θ μ n0 d ME rE nx) : jm_V p l e R s m args below meth c Q θ μ n0 (pc, L, S, M) := by
  obtain ⟨x, h, rfl⟩ := jm_ldA_inv hx
  intro H locs ls h1 h2 h3
  exact lv_aload C.1 C.2.1 hd (jm_Lo_at h3 h (by simp)) (ok.2 H locs ls h1 h2 h3)
theorem jm_s_istore_n (C : jm_X θ μ p s m args meth c) {k : Fin 4} (hd : decode μ.2.1 pc = .ok (.istore_n k, 1)) (hx : jm_siI k (pc + 1) L S M = some nx) (ok : jm_Ok p l e R s m args below meth c Q θ μ n0 d ME rE nx) : jm_V p l e R s m args below meth c Q θ μ n0 (pc, L, S, M) := by
  obtain ⟨x, S1, rfl, hl, rfl⟩ := jm_siI_inv hx
  intro H locs ls h1 h2 h3
  exact lv_istore_n C.1 C.2.1 hd rfl h3.has (by have := h3.2.2.1; dsimp only at this; omega) rfl (fun ls1 hl1 => ok.2 H locs ls1 h1 h2 (jm_Lo.of1 h3.2.2.1 (by have := h3.2.2.1; dsimp only at this; omega) hl1))
theorem jm_s_istore (C : jm_X θ μ p s m args meth c) {k : Nat} (hd : decode μ.2.1 pc = .ok (.istore k, 2)) (hx : jm_siI k (pc + 2) L S M = some nx) (ok : jm_Ok p l e R s m args below meth c Q θ μ n0 d ME rE nx) : jm_V p l e R s m args below meth c Q θ μ n0 (pc, L, S, M) := by
  obtain ⟨x, S1, rfl, hl, rfl⟩ := jm_siI_inv hx
  intro H locs ls h1 h2 h3
  exact lv_istore C.1 C.2.1 hd h3.has (by have := h3.2.2.1; dsimp only at this; omega) rfl (fun ls1 hl1 => ok.2 H locs ls1 h1 h2 (jm_Lo.of1 h3.2.2.1 (by have := h3.2.2.1; dsimp only at this; omega) hl1))
theorem jm_s_lstore_n (C : jm_X θ μ p s m args meth c) {k : Fin 4} (hd : decode μ.2.1 pc = .ok (.lstore_n k, 1)) (hx : jm_siL k (pc + 1) L S M = some nx) (ok : jm_Ok p l e R s m args below meth c Q θ μ n0 d ME rE nx) : jm_V p l e R s m args below meth c Q θ μ n0 (pc, L, S, M) := by
  obtain ⟨x, S1, rfl, hl, rfl⟩ := jm_siL_inv hx
  intro H locs ls h1 h2 h3
  exact lv_lstore_n C.1 C.2.1 hd rfl h3.has (by have := h3.2.2.1; dsimp only at this; omega) rfl (fun ls1 hl1 => ok.2 H locs ls1 h1 h2 (jm_Lo.of2 h3.2.2.1 (by have := h3.2.2.1; dsimp only at this; omega) hl1))
theorem jm_s_lstore (C : jm_X θ μ p s m args meth c) {k : Nat} (hd : decode μ.2.1 pc = .ok (.lstore k, 2)) (hx : jm_siL k (pc + 2) L S M = some nx) (ok : jm_Ok p l e R s m args below meth c Q θ μ n0 d ME rE nx) : jm_V p l e R s m args below meth c Q θ μ n0 (pc, L, S, M) := by
  obtain ⟨x, S1, rfl, hl, rfl⟩ := jm_siL_inv hx
  intro H locs ls h1 h2 h3
  exact lv_lstore C.1 C.2.1 hd h3.has (by have := h3.2.2.1; dsimp only at this; omega) rfl (fun ls1 hl1 => ok.2 H locs ls1 h1 h2 (jm_Lo.of2 h3.2.2.1 (by have := h3.2.2.1; dsimp only at this; omega) hl1))
theorem jm_s_astore_n (C : jm_X θ μ p s m args meth c) {k : Fin 4} (hd : decode μ.2.1 pc = .ok (.astore_n k, 1)) (hx : jm_siA k (pc + 1) L S M = some nx) (ok : jm_Ok p l e R s m args below meth c Q θ μ n0 d ME rE nx) : jm_V p l e R s m args below meth c Q θ μ n0 (pc, L, S, M) := by
  obtain ⟨x, S1, rfl, hl, rfl⟩ := jm_siA_inv hx
  intro H locs ls h1 h2 h3
  exact lv_astore_n C.1 C.2.1 hd rfl h3.has (by have := h3.2.2.1; dsimp only at this; omega) rfl (fun ls1 hl1 => ok.2 H locs ls1 h1 h2 (jm_Lo.of1 h3.2.2.1 (by have := h3.2.2.1; dsimp only at this; omega) hl1))
theorem jm_s_astore (C : jm_X θ μ p s m args meth c) {k : Nat} (hd : decode μ.2.1 pc = .ok (.astore k, 2)) (hx : jm_siA k (pc + 2) L S M = some nx) (ok : jm_Ok p l e R s m args below meth c Q θ μ n0 d ME rE nx) : jm_V p l e R s m args below meth c Q θ μ n0 (pc, L, S, M) := by
  obtain ⟨x, S1, rfl, hl, rfl⟩ := jm_siA_inv hx
  intro H locs ls h1 h2 h3
  exact lv_astore C.1 C.2.1 hd h3.has (by have := h3.2.2.1; dsimp only at this; omega) rfl (fun ls1 hl1 => ok.2 H locs ls1 h1 h2 (jm_Lo.of1 h3.2.2.1 (by have := h3.2.2.1; dsimp only at this; omega) hl1))
theorem jm_s_iinc (C : jm_X θ μ p s m args meth c) {k : Nat} {z : Int} (hd : decode μ.2.1 pc = .ok (.iinc k z, 3)) (hx : jm_iinc k z (pc + 3) L S M = some nx) (ok : jm_Ok p l e R s m args below meth c Q θ μ n0 d ME rE nx) : jm_V p l e R s m args below meth c Q θ μ n0 (pc, L, S, M) := by
  unfold jm_iinc at hx
  split at hx
  · rename_i x h
    cases hx
    intro H locs ls h1 h2 h3
    have hkl : k < μ.2.2.1 := by have h4 := h3.2.2.1; have h5 := (List.getElem?_eq_some_iff.mp h).1; dsimp only at h4; omega
    obtain ⟨j, hj⟩ := List.getElem?_of_mem ((jm_lv_mem (θ := θ) L 0 k (.int x)).mpr ⟨k, .int x, by omega, h, by simp, rfl⟩)
    exact lv_iinc C.1 C.2.1 hd h3.has hj rfl hkl rfl (fun ls1 hl1 => ok.2 H locs ls1 h1 h2 (jm_Lo.of1 h3.2.2.1 hkl hl1))
  · cases hx
theorem jm_s_iadd (C : jm_X θ μ p s m args meth c)  (hd : decode μ.2.1 pc = .ok (.iadd, 1)) (hx : jm_bi (fun a b => a + b) (pc + 1) L S M = some nx) (ok : jm_Ok p l e R s m args below meth c Q θ μ n0 d ME rE nx) : jm_V p l e R s m args below meth c Q θ μ n0 (pc, L, S, M) := by
  obtain ⟨a, b, S1, rfl, rfl⟩ := jm_bi_inv hx
  intro H locs ls h1 h2 h3
  exact lv_iadd C.1 C.2.1 hd (ok.2 H locs ls h1 h2 h3)
theorem jm_s_isub (C : jm_X θ μ p s m args meth c)  (hd : decode μ.2.1 pc = .ok (.isub, 1)) (hx : jm_bi (fun a b => a - b) (pc + 1) L S M = some nx) (ok : jm_Ok p l e R s m args below meth c Q θ μ n0 d ME rE nx) : jm_V p l e R s m args below meth c Q θ μ n0 (pc, L, S, M) := by
  obtain ⟨a, b, S1, rfl, rfl⟩ := jm_bi_inv hx
  intro H locs ls h1 h2 h3
  exact lv_isub C.1 C.2.1 hd (ok.2 H locs ls h1 h2 h3)
theorem jm_s_imul (C : jm_X θ μ p s m args meth c)  (hd : decode μ.2.1 pc = .ok (.imul, 1)) (hx : jm_bi (fun a b => a * b) (pc + 1) L S M = some nx) (ok : jm_Ok p l e R s m args below meth c Q θ μ n0 d ME rE nx) : jm_V p l e R s m args below meth c Q θ μ n0 (pc, L, S, M) := by
  obtain ⟨a, b, S1, rfl, rfl⟩ := jm_bi_inv hx
  intro H locs ls h1 h2 h3
  exact lv_imul C.1 C.2.1 hd (ok.2 H locs ls h1 h2 h3)
theorem jm_s_iand (C : jm_X θ μ p s m args meth c)  (hd : decode μ.2.1 pc = .ok (.iand, 1)) (hx : jm_bi (fun a b => a &&& b) (pc + 1) L S M = some nx) (ok : jm_Ok p l e R s m args below meth c Q θ μ n0 d ME rE nx) : jm_V p l e R s m args below meth c Q θ μ n0 (pc, L, S, M) := by
  obtain ⟨a, b, S1, rfl, rfl⟩ := jm_bi_inv hx
  intro H locs ls h1 h2 h3
  exact lv_iand C.1 C.2.1 hd (ok.2 H locs ls h1 h2 h3)
theorem jm_s_ior (C : jm_X θ μ p s m args meth c)  (hd : decode μ.2.1 pc = .ok (.ior, 1)) (hx : jm_bi (fun a b => a ||| b) (pc + 1) L S M = some nx) (ok : jm_Ok p l e R s m args below meth c Q θ μ n0 d ME rE nx) : jm_V p l e R s m args below meth c Q θ μ n0 (pc, L, S, M) := by
  obtain ⟨a, b, S1, rfl, rfl⟩ := jm_bi_inv hx
  intro H locs ls h1 h2 h3
  exact lv_ior C.1 C.2.1 hd (ok.2 H locs ls h1 h2 h3)
theorem jm_s_ixor (C : jm_X θ μ p s m args meth c)  (hd : decode μ.2.1 pc = .ok (.ixor, 1)) (hx : jm_bi (fun a b => a ^^^ b) (pc + 1) L S M = some nx) (ok : jm_Ok p l e R s m args below meth c Q θ μ n0 d ME rE nx) : jm_V p l e R s m args below meth c Q θ μ n0 (pc, L, S, M) := by
  obtain ⟨a, b, S1, rfl, rfl⟩ := jm_bi_inv hx
  intro H locs ls h1 h2 h3
  exact lv_ixor C.1 C.2.1 hd (ok.2 H locs ls h1 h2 h3)
theorem jm_s_ishl (C : jm_X θ μ p s m args meth c)  (hd : decode μ.2.1 pc = .ok (.ishl, 1)) (hx : jm_bi (fun a b => a <<< (b &&& 31)) (pc + 1) L S M = some nx) (ok : jm_Ok p l e R s m args below meth c Q θ μ n0 d ME rE nx) : jm_V p l e R s m args below meth c Q θ μ n0 (pc, L, S, M) := by
  obtain ⟨a, b, S1, rfl, rfl⟩ := jm_bi_inv hx
  intro H locs ls h1 h2 h3
  exact lv_ishl C.1 C.2.1 hd (ok.2 H locs ls h1 h2 h3)
theorem jm_s_ishr (C : jm_X θ μ p s m args meth c)  (hd : decode μ.2.1 pc = .ok (.ishr, 1)) (hx : jm_bi (fun a b => a >>> (b &&& 31)) (pc + 1) L S M = some nx) (ok : jm_Ok p l e R s m args below meth c Q θ μ n0 d ME rE nx) : jm_V p l e R s m args below meth c Q θ μ n0 (pc, L, S, M) := by
  obtain ⟨a, b, S1, rfl, rfl⟩ := jm_bi_inv hx
  intro H locs ls h1 h2 h3
  exact lv_ishr C.1 C.2.1 hd (ok.2 H locs ls h1 h2 h3)
theorem jm_s_iushr (C : jm_X θ μ p s m args meth c)  (hd : decode μ.2.1 pc = .ok (.iushr, 1)) (hx : jm_bi (fun a b => (a.toUInt32 >>> (b.toUInt32 &&& Int32.toUInt32 31)).toInt32) (pc + 1) L S M = some nx) (ok : jm_Ok p l e R s m args below meth c Q θ μ n0 d ME rE nx) : jm_V p l e R s m args below meth c Q θ μ n0 (pc, L, S, M) := by
  obtain ⟨a, b, S1, rfl, rfl⟩ := jm_bi_inv hx
  intro H locs ls h1 h2 h3
  exact lv_iushr C.1 C.2.1 hd rfl (ok.2 H locs ls h1 h2 h3)
theorem jm_s_idiv (C : jm_X θ μ p s m args meth c)  (hd : decode μ.2.1 pc = .ok (.idiv, 1)) (hx : jm_dv (fun a b => a / b) (pc + 1) L S M = some nx) (ok : jm_Ok p l e R s m args below meth c Q θ μ n0 d ME rE nx) : jm_V p l e R s m args below meth c Q θ μ n0 (pc, L, S, M) := by
  obtain ⟨a, b, S1, rfl, h0, rfl⟩ := jm_dv_inv hx
  intro H locs ls h1 h2 h3
  exact lv_idiv C.1 C.2.1 hd h0 (ok.2 H locs ls h1 h2 h3)
theorem jm_s_irem (C : jm_X θ μ p s m args meth c)  (hd : decode μ.2.1 pc = .ok (.irem, 1)) (hx : jm_dv (fun a b => a - a / b * b) (pc + 1) L S M = some nx) (ok : jm_Ok p l e R s m args below meth c Q θ μ n0 d ME rE nx) : jm_V p l e R s m args below meth c Q θ μ n0 (pc, L, S, M) := by
  obtain ⟨a, b, S1, rfl, h0, rfl⟩ := jm_dv_inv hx
  intro H locs ls h1 h2 h3
  exact lv_irem C.1 C.2.1 hd h0 (ok.2 H locs ls h1 h2 h3)
theorem jm_s_ineg (C : jm_X θ μ p s m args meth c)  (hd : decode μ.2.1 pc = .ok (.ineg, 1)) (hx : jm_un (fun a => -a) (pc + 1) L S M = some nx) (ok : jm_Ok p l e R s m args below meth c Q θ μ n0 d ME rE nx) : jm_V p l e R s m args below meth c Q θ μ n0 (pc, L, S, M) := by
  obtain ⟨a, S1, rfl, rfl⟩ := jm_un_inv hx
  intro H locs ls h1 h2 h3
  exact lv_ineg C.1 C.2.1 hd (ok.2 H locs ls h1 h2 h3)
theorem jm_s_i2b (C : jm_X θ μ p s m args meth c)  (hd : decode μ.2.1 pc = .ok (.i2b, 1)) (hx : jm_un (fun a => a.toInt8.toInt32) (pc + 1) L S M = some nx) (ok : jm_Ok p l e R s m args below meth c Q θ μ n0 d ME rE nx) : jm_V p l e R s m args below meth c Q θ μ n0 (pc, L, S, M) := by
  obtain ⟨a, S1, rfl, rfl⟩ := jm_un_inv hx
  intro H locs ls h1 h2 h3
  exact lv_i2b C.1 C.2.1 hd rfl (ok.2 H locs ls h1 h2 h3)
theorem jm_s_i2s (C : jm_X θ μ p s m args meth c)  (hd : decode μ.2.1 pc = .ok (.i2s, 1)) (hx : jm_un (fun a => a.toInt16.toInt32) (pc + 1) L S M = some nx) (ok : jm_Ok p l e R s m args below meth c Q θ μ n0 d ME rE nx) : jm_V p l e R s m args below meth c Q θ μ n0 (pc, L, S, M) := by
  obtain ⟨a, S1, rfl, rfl⟩ := jm_un_inv hx
  intro H locs ls h1 h2 h3
  exact lv_i2s C.1 C.2.1 hd rfl (ok.2 H locs ls h1 h2 h3)
theorem jm_s_ladd (C : jm_X θ μ p s m args meth c)  (hd : decode μ.2.1 pc = .ok (.ladd, 1)) (hx : jm_bl (fun a b => a + b) (pc + 1) L S M = some nx) (ok : jm_Ok p l e R s m args below meth c Q θ μ n0 d ME rE nx) : jm_V p l e R s m args below meth c Q θ μ n0 (pc, L, S, M) := by
  obtain ⟨a, b, S1, rfl, rfl⟩ := jm_bl_inv hx
  intro H locs ls h1 h2 h3
  exact lv_ladd C.1 C.2.1 hd (ok.2 H locs ls h1 h2 h3)
theorem jm_s_lsub (C : jm_X θ μ p s m args meth c)  (hd : decode μ.2.1 pc = .ok (.lsub, 1)) (hx : jm_bl (fun a b => a - b) (pc + 1) L S M = some nx) (ok : jm_Ok p l e R s m args below meth c Q θ μ n0 d ME rE nx) : jm_V p l e R s m args below meth c Q θ μ n0 (pc, L, S, M) := by
  obtain ⟨a, b, S1, rfl, rfl⟩ := jm_bl_inv hx
  intro H locs ls h1 h2 h3
  exact lv_lsub C.1 C.2.1 hd (ok.2 H locs ls h1 h2 h3)
theorem jm_s_lmul (C : jm_X θ μ p s m args meth c)  (hd : decode μ.2.1 pc = .ok (.lmul, 1)) (hx : jm_bl (fun a b => a * b) (pc + 1) L S M = some nx) (ok : jm_Ok p l e R s m args below meth c Q θ μ n0 d ME rE nx) : jm_V p l e R s m args below meth c Q θ μ n0 (pc, L, S, M) := by
  obtain ⟨a, b, S1, rfl, rfl⟩ := jm_bl_inv hx
  intro H locs ls h1 h2 h3
  exact lv_lmul C.1 C.2.1 hd (ok.2 H locs ls h1 h2 h3)
theorem jm_s_ldiv (C : jm_X θ μ p s m args meth c)  (hd : decode μ.2.1 pc = .ok (.ldiv, 1)) (hx : jm_dl (fun a b => a / b) (pc + 1) L S M = some nx) (ok : jm_Ok p l e R s m args below meth c Q θ μ n0 d ME rE nx) : jm_V p l e R s m args below meth c Q θ μ n0 (pc, L, S, M) := by
  obtain ⟨a, b, S1, rfl, h0, rfl⟩ := jm_dl_inv hx
  intro H locs ls h1 h2 h3
  exact lv_ldiv C.1 C.2.1 hd h0 (ok.2 H locs ls h1 h2 h3)
theorem jm_s_lrem (C : jm_X θ μ p s m args meth c)  (hd : decode μ.2.1 pc = .ok (.lrem, 1)) (hx : jm_dl (fun a b => a - a / b * b) (pc + 1) L S M = some nx) (ok : jm_Ok p l e R s m args below meth c Q θ μ n0 d ME rE nx) : jm_V p l e R s m args below meth c Q θ μ n0 (pc, L, S, M) := by
  obtain ⟨a, b, S1, rfl, h0, rfl⟩ := jm_dl_inv hx
  intro H locs ls h1 h2 h3
  exact lv_lrem C.1 C.2.1 hd h0 (ok.2 H locs ls h1 h2 h3)
theorem jm_s_lcmp (C : jm_X θ μ p s m args meth c)  (hd : decode μ.2.1 pc = .ok (.lcmp, 1)) (hx : jm_lcmp (pc + 1) L S M = some nx) (ok : jm_Ok p l e R s m args below meth c Q θ μ n0 d ME rE nx) : jm_V p l e R s m args below meth c Q θ μ n0 (pc, L, S, M) := by
  unfold jm_lcmp at hx
  split at hx
  · cases hx; exact fun H locs ls h1 h2 h3 => W.lcmp C.1 C.2.1 hd (ok.2 H locs ls h1 h2 h3)
  · cases hx
theorem jm_s_i2l (C : jm_X θ μ p s m args meth c)  (hd : decode μ.2.1 pc = .ok (.i2l, 1)) (hx : jm_i2l (pc + 1) L S M = some nx) (ok : jm_Ok p l e R s m args below meth c Q θ μ n0 d ME rE nx) : jm_V p l e R s m args below meth c Q θ μ n0 (pc, L, S, M) := by
  unfold jm_i2l at hx
  split at hx
  · cases hx; exact fun H locs ls h1 h2 h3 => lv_i2l C.1 C.2.1 hd rfl (ok.2 H locs ls h1 h2 h3)
  · cases hx
theorem jm_s_l2i (C : jm_X θ μ p s m args meth c)  (hd : decode μ.2.1 pc = .ok (.l2i, 1)) (hx : jm_l2i (pc + 1) L S M = some nx) (ok : jm_Ok p l e R s m args below meth c Q θ μ n0 d ME rE nx) : jm_V p l e R s m args below meth c Q θ μ n0 (pc, L, S, M) := by
  unfold jm_l2i at hx
  split at hx
  · cases hx; exact fun H locs ls h1 h2 h3 => lv_l2i C.1 C.2.1 hd rfl (ok.2 H locs ls h1 h2 h3)
  · cases hx
theorem jm_s_dup (C : jm_X θ μ p s m args meth c)  (hd : decode μ.2.1 pc = .ok (.dup, 1)) (hx : jm_dup (pc + 1) L S M = some nx) (ok : jm_Ok p l e R s m args below meth c Q θ μ n0 d ME rE nx) : jm_V p l e R s m args below meth c Q θ μ n0 (pc, L, S, M) := by
  unfold jm_dup at hx
  split at hx
  · cases hx; exact fun H locs ls h1 h2 h3 => lv_dup C.1 C.2.1 hd rfl (ok.2 H locs ls h1 h2 h3)
  · cases hx; exact fun H locs ls h1 h2 h3 => lv_dup C.1 C.2.1 hd rfl (ok.2 H locs ls h1 h2 h3)
  · cases hx
theorem jm_s_dup2 (C : jm_X θ μ p s m args meth c)  (hd : decode μ.2.1 pc = .ok (.dup2, 1)) (hx : jm_dup2 (pc + 1) L S M = some nx) (ok : jm_Ok p l e R s m args below meth c Q θ μ n0 d ME rE nx) : jm_V p l e R s m args below meth c Q θ μ n0 (pc, L, S, M) := by
  unfold jm_dup2 at hx
  split at hx
  · cases hx; exact fun H locs ls h1 h2 h3 => lv_dup2_11 C.1 C.2.1 hd rfl rfl (ok.2 H locs ls h1 h2 h3)
  · cases hx
theorem jm_s_pop (C : jm_X θ μ p s m args meth c)  (hd : decode μ.2.1 pc = .ok (.pop, 1)) (hx : jm_pop1 (pc + 1) L S M = some nx) (ok : jm_Ok p l e R s m args below meth c Q θ μ n0 d ME rE nx) : jm_V p l e R s m args below meth c Q θ μ n0 (pc, L, S, M) := by
  unfold jm_pop1 at hx
  split at hx
  · cases hx; exact fun H locs ls h1 h2 h3 => lv_pop (va := .int _) C.1 C.2.1 hd rfl (ok.2 H locs ls h1 h2 h3)
  · cases hx; exact fun H locs ls h1 h2 h3 => lv_pop (va := .ref _) C.1 C.2.1 hd rfl (ok.2 H locs ls h1 h2 h3)
  · cases hx
theorem jm_s_goto (C : jm_X θ μ p s m args meth c) {off : Int} (hd : decode μ.2.1 pc = .ok (.goto off, 3)) (hx : jm_to pc off L S M = some nx) (ok : jm_Ok p l e R s m args below meth c Q θ μ n0 d ME rE nx) : jm_V p l e R s m args below meth c Q θ μ n0 (pc, L, S, M) := by
  obtain ⟨t, ht, rfl⟩ := jm_to_inv hx
  exact fun H locs ls h1 h2 h3 => lv_goto C.1 C.2.1 hd ht (ok.2 H locs ls h1 h2 h3)
theorem jm_br_inv {b : Bool} {off : Int} {pc : Nat} {L S : List Value} {M : jm_M} {nx : jm_N} (h : jm_br b off pc L S M = some nx) : ∃ t : Nat, (pc : Int) + off = (t : Int) ∧ nx = .inl (jm_sel b t (pc + 3), L, S, M) := by
  unfold jm_br at h; split at h
  · exact ⟨_, by assumption, (Option.some.inj h).symm⟩
  · cases h
theorem jm_s_icmp (C : jm_X θ μ p s m args meth c) {cd : Jvm.ClassFile.Cond} {off : Int} (hd : decode μ.2.1 pc = .ok (.if_icmp cd off, 3)) (hx : jm_icmp cd off pc L S M = some nx) (ok : jm_Ok p l e R s m args below meth c Q θ μ n0 d ME rE nx) : jm_V p l e R s m args below meth c Q θ μ n0 (pc, L, S, M) := by
  unfold jm_icmp at hx
  split at hx
  · obtain ⟨t, ht, rfl⟩ := jm_br_inv hx
    intro H locs ls h1 h2 h3
    have kk := ok.2 H locs ls h1 h2 h3
    dsimp only at kk
    cases cd with
    | eq => exact lv_icmp_eq C.1 C.2.1 hd ht (fun q => by rw [show jm_cd .eq _ _ = true from decide_eq_true q] at kk; exact kk) (fun q => by rw [show jm_cd .eq _ _ = false from decide_eq_false q] at kk; exact kk)
    | ne => exact lv_icmp_ne C.1 C.2.1 hd ht (fun q => by rw [show jm_cd .ne _ _ = true from decide_eq_true q] at kk; exact kk) (fun q => by rw [show jm_cd .ne _ _ = false from decide_eq_false (fun z => z q)] at kk; exact kk)
    | lt => exact lv_icmp_lt C.1 C.2.1 hd ht (fun q => by rw [show jm_cd .lt _ _ = true from decide_eq_true q] at kk; exact kk) (fun q => by rw [show jm_cd .lt _ _ = false from decide_eq_false q] at kk; exact kk)
    | ge => exact lv_icmp_ge C.1 C.2.1 hd ht (fun q => by rw [show jm_cd .ge _ _ = true from decide_eq_true q] at kk; exact kk) (fun q => by rw [show jm_cd .ge _ _ = false from decide_eq_false q] at kk; exact kk)
    | gt => exact lv_icmp_gt C.1 C.2.1 hd ht (fun q => by rw [show jm_cd .gt _ _ = true from decide_eq_true q] at kk; exact kk) (fun q => by rw [show jm_cd .gt _ _ = false from decide_eq_false q] at kk; exact kk)
    | le => exact lv_icmp_le C.1 C.2.1 hd ht (fun q => by rw [show jm_cd .le _ _ = true from decide_eq_true q] at kk; exact kk) (fun q => by rw [show jm_cd .le _ _ = false from decide_eq_false q] at kk; exact kk)
  · cases hx
theorem jm_s_ifc (C : jm_X θ μ p s m args meth c) {cd : Jvm.ClassFile.Cond} {off : Int} (hd : decode μ.2.1 pc = .ok (.ifCond cd off, 3)) (hx : jm_ifc cd off pc L S M = some nx) (ok : jm_Ok p l e R s m args below meth c Q θ μ n0 d ME rE nx) : jm_V p l e R s m args below meth c Q θ μ n0 (pc, L, S, M) := by
  unfold jm_ifc at hx
  split at hx
  · obtain ⟨t, ht, rfl⟩ := jm_br_inv hx
    intro H locs ls h1 h2 h3
    have kk := ok.2 H locs ls h1 h2 h3
    dsimp only at kk
    cases cd with
    | eq => exact lv_if_eq C.1 C.2.1 hd ht (fun q => by rw [show jm_cd .eq _ 0 = true from decide_eq_true q] at kk; exact kk) (fun q => by rw [show jm_cd .eq _ 0 = false from decide_eq_false q] at kk; exact kk)
    | ne => exact lv_if_ne C.1 C.2.1 hd ht (fun q => by rw [show jm_cd .ne _ 0 = true from decide_eq_true q] at kk; exact kk) (fun q => by rw [show jm_cd .ne _ 0 = false from decide_eq_false (fun z => z q)] at kk; exact kk)
    | lt => exact lv_if_lt C.1 C.2.1 hd ht (fun q => by rw [show jm_cd .lt _ 0 = true from decide_eq_true q] at kk; exact kk) (fun q => by rw [show jm_cd .lt _ 0 = false from decide_eq_false q] at kk; exact kk)
    | ge => exact lv_if_ge C.1 C.2.1 hd ht (fun q => by rw [show jm_cd .ge _ 0 = true from decide_eq_true q] at kk; exact kk) (fun q => by rw [show jm_cd .ge _ 0 = false from decide_eq_false q] at kk; exact kk)
    | gt => exact lv_if_gt C.1 C.2.1 hd ht (fun q => by rw [show jm_cd .gt _ 0 = true from decide_eq_true q] at kk; exact kk) (fun q => by rw [show jm_cd .gt _ 0 = false from decide_eq_false q] at kk; exact kk)
    | le => exact lv_if_le C.1 C.2.1 hd ht (fun q => by rw [show jm_cd .le _ 0 = true from decide_eq_true q] at kk; exact kk) (fun q => by rw [show jm_cd .le _ 0 = false from decide_eq_false q] at kk; exact kk)
  · cases hx
theorem jm_s_tsw (C : jm_X θ μ p s m args meth c) {dflt lo hi : Int} {offs : Array Int} (hd : decode μ.2.1 pc = .ok (.tableswitch dflt lo hi offs, n)) (hx : jm_tsw dflt lo hi offs pc L S M = some nx) (ok : jm_Ok p l e R s m args below meth c Q θ μ n0 d ME rE nx) : jm_V p l e R s m args below meth c Q θ μ n0 (pc, L, S, M) := by
  unfold jm_tsw at hx
  split at hx
  · rename_i x S1
    by_cases q : x.toInt < lo ∨ hi < x.toInt
    · rw [decide_eq_true q] at hx
      obtain ⟨t, ht, rfl⟩ := jm_to_inv hx
      exact fun H locs ls h1 h2 h3 => lv_tableOut C.1 C.2.1 hd q ht (ok.2 H locs ls h1 h2 h3)
    · rw [decide_eq_false q] at hx
      unfold jm_if at hx
      dsimp only at hx
      split at hx
      · rename_i off ho
        obtain ⟨t, ht, rfl⟩ := jm_to_inv hx
        exact fun H locs ls h1 h2 h3 => lv_tableIn C.1 C.2.1 hd (fun z => q (Or.inl z)) (fun z => q (Or.inr z)) ho ht (ok.2 H locs ls h1 h2 h3)
      · cases hx
  · cases hx
theorem jm_s_lsw (C : jm_X θ μ p s m args meth c) {dflt : Int} {ps : Array (Int × Int)} (hd : decode μ.2.1 pc = .ok (.lookupswitch dflt ps, n)) (hx : jm_lsw dflt ps pc L S M = some nx) (ok : jm_Ok p l e R s m args below meth c Q θ μ n0 d ME rE nx) : jm_V p l e R s m args below meth c Q θ μ n0 (pc, L, S, M) := by
  unfold jm_lsw at hx
  split at hx
  · obtain ⟨h0, hx⟩ := jm_if_inv hx
    obtain ⟨t, ht, rfl⟩ := jm_to_inv hx
    exact fun H locs ls h1 h2 h3 => lv_lookup C.1 C.2.1 hd h0 rfl ht (ok.2 H locs ls h1 h2 h3)
  · cases hx
theorem jm_s_ldc (C : jm_X θ μ p s m args meth c) {k : Nat} (hd : decode μ.2.1 pc = .ok (.ldc k, 2)) (hx : jm_ldc μ k (pc + 2) L S M = some nx) (ok : jm_Ok p l e R s m args below meth c Q θ μ n0 d ME rE nx) : jm_V p l e R s m args below meth c Q θ μ n0 (pc, L, S, M) := by
  unfold jm_ldc at hx
  split at hx
  · rename_i v hv
    cases hx
    obtain ⟨g1, g2⟩ := jm_goodC (jm_look_mem hv)
    obtain ⟨g3, g4⟩ := jm_hd rfl g1
    dsimp only at g2
    rw [← g3, ← g4] at g2
    exact fun H locs ls h1 h2 h3 => lv_ldc C.1 C.2.1 C.2.2.2.2.2.1 (C.2.2.2.2.2.2.1 _ (List.mem_cons_of_mem _ g2)) hd (ok.2 H locs ls h1 h2 h3)
  · cases hx
theorem jm_s_ldc_w (C : jm_X θ μ p s m args meth c) {k : Nat} (hd : decode μ.2.1 pc = .ok (.ldc_w k, 3)) (hx : jm_ldc μ k (pc + 3) L S M = some nx) (ok : jm_Ok p l e R s m args below meth c Q θ μ n0 d ME rE nx) : jm_V p l e R s m args below meth c Q θ μ n0 (pc, L, S, M) := by
  unfold jm_ldc at hx
  split at hx
  · rename_i v hv
    cases hx
    obtain ⟨g1, g2⟩ := jm_goodC (jm_look_mem hv)
    obtain ⟨g3, g4⟩ := jm_hd rfl g1
    dsimp only at g2
    rw [← g3, ← g4] at g2
    exact fun H locs ls h1 h2 h3 => lv_ldcw C.1 C.2.1 C.2.2.2.2.2.1 (C.2.2.2.2.2.2.1 _ (List.mem_cons_of_mem _ g2)) hd (ok.2 H locs ls h1 h2 h3)
  · cases hx
theorem jm_s_ldc2_w (C : jm_X θ μ p s m args meth c) {k : Nat} (hd : decode μ.2.1 pc = .ok (.ldc2_w k, 3)) (hx : jm_ldc2 μ k (pc + 3) L S M = some nx) (ok : jm_Ok p l e R s m args below meth c Q θ μ n0 d ME rE nx) : jm_V p l e R s m args below meth c Q θ μ n0 (pc, L, S, M) := by
  unfold jm_ldc2 at hx
  split at hx
  · rename_i v hv
    cases hx
    obtain ⟨g1, g2⟩ := jm_goodL (jm_look_mem hv)
    obtain ⟨g3, g4⟩ := jm_hd rfl g1
    dsimp only at g2
    rw [← g3, ← g4] at g2
    exact fun H locs ls h1 h2 h3 => lv_ldc2 C.1 C.2.1 C.2.2.2.2.2.1 (C.2.2.2.2.2.2.1 _ (List.mem_cons_of_mem _ g2)) hd (ok.2 H locs ls h1 h2 h3)
  · cases hx
end JS
