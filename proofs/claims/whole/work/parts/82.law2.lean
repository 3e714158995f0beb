/-! what holds at the law's entry -/
set_option maxRecDepth 100000 in
theorem lw_inst' : ∀ w ∈ (List.range 8).map (fun c => Cond.instantiable (jm_tab c).1 (jm_tab c).2.2), w ∈ jm_G := jm_pos [65, 174, 72, 21, 159, 41, 13, 708] (by decide +kernel) (by decide +kernel)
theorem lw_inst {c : Nat} (h : c < 8) : Cond.instantiable (jm_tab c).1 (jm_tab c).2.2 ∈ jm_G := lw_inst' _ (List.mem_map_of_mem (f := fun c => Cond.instantiable (jm_tab c).1 (jm_tab c).2.2) (List.mem_range.mpr h))
set_option maxRecDepth 100000 in
theorem lw_init' : ∀ w ∈ (List.range 8).map (fun c => Cond.initialized (jm_tab c).1), w ∈ jm_G := jm_pos [4, 7, 5, 2, 6, 3, 1, 8] (by decide +kernel) (by decide +kernel)
theorem lw_init {c : Nat} (h : c < 8) : Cond.initialized (jm_tab c).1 ∈ jm_G := lw_init' _ (List.mem_map_of_mem (f := fun c => Cond.initialized (jm_tab c).1) (List.mem_range.mpr h))
theorem lw_pos {ws : List Cond} (ps : List Nat) (hp : ws = ps.filterMap (fun i => tables_1[i]?)) : ∀ w ∈ ws, w ∈ tables_1 := by
  intro w hw
  rw [hp] at hw
  obtain ⟨i, -, hi⟩ := List.mem_filterMap.mp hw
  exact List.mem_of_getElem? hi
set_option maxRecDepth 100000 in
theorem lw_nest : ∀ w ∈ jm_nestL.map jm_nw, w ∈ tables_1 := lw_pos [73, 223, 698, 165, 330, 42, 157] (by decide +kernel)
theorem lw_aoI : Cond.arrayOver (.object "SpringIsle$Isle") ∈ tables_1 := List.mem_of_getElem? (i := 71) (by decide +kernel)
theorem lw_aoA : Cond.arrayOver (.array .int) ∈ tables_1 := List.mem_of_getElem? (i := 27) (by decide +kernel)
theorem lw_ls0 : Cond.laysStatic "SpringIsle$Bodies" "NEXT_KIND" "[I" ∈ tables_1 := List.mem_of_getElem? (i := 656) (by decide +kernel)
theorem lw_ls1 : Cond.laysStatic "SpringIsle$Bodies" "SIZE_BODY" "[I" ∈ tables_1 := List.mem_of_getElem? (i := 684) (by decide +kernel)
theorem lw_ls2 : Cond.laysStatic "SpringIsle$Bodies" "MARK_BODY" "[I" ∈ tables_1 := List.mem_of_getElem? (i := 670) (by decide +kernel)
theorem lw_st0 {args : Array Value} {s : State} {A : Nat → Prop} (h : (Jvm.Cond.and given_1 narrow_1).before args s = true) (hts : ∀ w ∈ tables_1, w.before args s = true) (hini : (Cond.initialized RX1).before args s = true) (hA : ∀ a : Nat, a < s.heap.size → ¬ A a) : ∃ t : Nat, va_Z RX1 (jm_sn 0) "[I" (.ref t) A s s.heap ∧ va_T .int t 6 (fun j => .int (jm_sv 0 j)) A s s.heap := by
  have hs := flat_of_before _ h
  have harr : (Cond.arrayOf (Term.static "SpringIsle$Bodies" "NEXT_KIND" "[I") .int).before args s = true := hs _ (by decide +kernel)
  have hlen := va_eqt (hs (Cond.eq (.length (Term.static "SpringIsle$Bodies" "NEXT_KIND" "[I")) (.int 6)) (by decide +kernel))
  have h0 := va_eqt (hs (Cond.eq (.elem (Term.static "SpringIsle$Bodies" "NEXT_KIND" "[I") (.int 0)) (.int (-1))) (by decide +kernel))
  have h1 := va_eqt (hs (Cond.eq (.elem (Term.static "SpringIsle$Bodies" "NEXT_KIND" "[I") (.int 1)) (.int (0))) (by decide +kernel))
  have h2 := va_eqt (hs (Cond.eq (.elem (Term.static "SpringIsle$Bodies" "NEXT_KIND" "[I") (.int 2)) (.int (1))) (by decide +kernel))
  have h3 := va_eqt (hs (Cond.eq (.elem (Term.static "SpringIsle$Bodies" "NEXT_KIND" "[I") (.int 3)) (.int (1))) (by decide +kernel))
  have h4 := va_eqt (hs (Cond.eq (.elem (Term.static "SpringIsle$Bodies" "NEXT_KIND" "[I") (.int 4)) (.int (0))) (by decide +kernel))
  have h5 := va_eqt (hs (Cond.eq (.elem (Term.static "SpringIsle$Bodies" "NEXT_KIND" "[I") (.int 5)) (.int (4))) (by decide +kernel))
  obtain ⟨t, ht, hT⟩ := va_Tof (N := 6) (f := fun j => .int (jm_sv 0 j)) (A := A) (by decide) harr hlen (fun j hj => by
    rcases (by omega : j = 0 ∨ j = 1 ∨ j = 2 ∨ j = 3 ∨ j = 4 ∨ j = 5) with rfl | rfl | rfl | rfl | rfl | rfl
    · exact h0
    · exact h1
    · exact h2
    · exact h3
    · exact h4
    · exact h5) hA
  exact ⟨t, va_Zof (hts _ lw_ls0) hini ht hA, hT⟩
theorem lw_st1 {args : Array Value} {s : State} {A : Nat → Prop} (h : (Jvm.Cond.and given_1 narrow_1).before args s = true) (hts : ∀ w ∈ tables_1, w.before args s = true) (hini : (Cond.initialized RX1).before args s = true) (hA : ∀ a : Nat, a < s.heap.size → ¬ A a) : ∃ t : Nat, va_Z RX1 (jm_sn 1) "[I" (.ref t) A s s.heap ∧ va_T .int t 6 (fun j => .int (jm_sv 1 j)) A s s.heap := by
  have hs := flat_of_before _ h
  have harr : (Cond.arrayOf (Term.static "SpringIsle$Bodies" "SIZE_BODY" "[I") .int).before args s = true := hs _ (by decide +kernel)
  have hlen := va_eqt (hs (Cond.eq (.length (Term.static "SpringIsle$Bodies" "SIZE_BODY" "[I")) (.int 6)) (by decide +kernel))
  have h0 := va_eqt (hs (Cond.eq (.elem (Term.static "SpringIsle$Bodies" "SIZE_BODY" "[I") (.int 0)) (.int (10))) (by decide +kernel))
  have h1 := va_eqt (hs (Cond.eq (.elem (Term.static "SpringIsle$Bodies" "SIZE_BODY" "[I") (.int 1)) (.int (11))) (by decide +kernel))
  have h2 := va_eqt (hs (Cond.eq (.elem (Term.static "SpringIsle$Bodies" "SIZE_BODY" "[I") (.int 2)) (.int (12))) (by decide +kernel))
  have h3 := va_eqt (hs (Cond.eq (.elem (Term.static "SpringIsle$Bodies" "SIZE_BODY" "[I") (.int 3)) (.int (11))) (by decide +kernel))
  have h4 := va_eqt (hs (Cond.eq (.elem (Term.static "SpringIsle$Bodies" "SIZE_BODY" "[I") (.int 4)) (.int (13))) (by decide +kernel))
  have h5 := va_eqt (hs (Cond.eq (.elem (Term.static "SpringIsle$Bodies" "SIZE_BODY" "[I") (.int 5)) (.int (14))) (by decide +kernel))
  obtain ⟨t, ht, hT⟩ := va_Tof (N := 6) (f := fun j => .int (jm_sv 1 j)) (A := A) (by decide) harr hlen (fun j hj => by
    rcases (by omega : j = 0 ∨ j = 1 ∨ j = 2 ∨ j = 3 ∨ j = 4 ∨ j = 5) with rfl | rfl | rfl | rfl | rfl | rfl
    · exact h0
    · exact h1
    · exact h2
    · exact h3
    · exact h4
    · exact h5) hA
  exact ⟨t, va_Zof (hts _ lw_ls1) hini ht hA, hT⟩
theorem lw_st2 {args : Array Value} {s : State} {A : Nat → Prop} (h : (Jvm.Cond.and given_1 narrow_1).before args s = true) (hts : ∀ w ∈ tables_1, w.before args s = true) (hini : (Cond.initialized RX1).before args s = true) (hA : ∀ a : Nat, a < s.heap.size → ¬ A a) : ∃ t : Nat, va_Z RX1 (jm_sn 2) "[I" (.ref t) A s s.heap ∧ va_T .int t 6 (fun j => .int (jm_sv 2 j)) A s s.heap := by
  have hs := flat_of_before _ h
  have harr : (Cond.arrayOf (Term.static "SpringIsle$Bodies" "MARK_BODY" "[I") .int).before args s = true := hs _ (by decide +kernel)
  have hlen := va_eqt (hs (Cond.eq (.length (Term.static "SpringIsle$Bodies" "MARK_BODY" "[I")) (.int 6)) (by decide +kernel))
  have h0 := va_eqt (hs (Cond.eq (.elem (Term.static "SpringIsle$Bodies" "MARK_BODY" "[I") (.int 0)) (.int (20))) (by decide +kernel))
  have h1 := va_eqt (hs (Cond.eq (.elem (Term.static "SpringIsle$Bodies" "MARK_BODY" "[I") (.int 1)) (.int (21))) (by decide +kernel))
  have h2 := va_eqt (hs (Cond.eq (.elem (Term.static "SpringIsle$Bodies" "MARK_BODY" "[I") (.int 2)) (.int (24))) (by decide +kernel))
  have h3 := va_eqt (hs (Cond.eq (.elem (Term.static "SpringIsle$Bodies" "MARK_BODY" "[I") (.int 3)) (.int (22))) (by decide +kernel))
  have h4 := va_eqt (hs (Cond.eq (.elem (Term.static "SpringIsle$Bodies" "MARK_BODY" "[I") (.int 4)) (.int (23))) (by decide +kernel))
  have h5 := va_eqt (hs (Cond.eq (.elem (Term.static "SpringIsle$Bodies" "MARK_BODY" "[I") (.int 5)) (.int (23))) (by decide +kernel))
  obtain ⟨t, ht, hT⟩ := va_Tof (N := 6) (f := fun j => .int (jm_sv 2 j)) (A := A) (by decide) harr hlen (fun j hj => by
    rcases (by omega : j = 0 ∨ j = 1 ∨ j = 2 ∨ j = 3 ∨ j = 4 ∨ j = 5) with rfl | rfl | rfl | rfl | rfl | rfl
    · exact h0
    · exact h1
    · exact h2
    · exact h3
    · exact h4
    · exact h5) hA
  exact ⟨t, va_Zof (hts _ lw_ls2) hini ht hA, hT⟩
theorem lw_Q0 {p : Program} {s : State} {m : MethodId} {meth : Method} {c : Code} {b L : Nat} {xs : Nat → Int32} (C0 : lw_At p s m meth c b L xs) : ∃ θ : jm_T, lw_C θ p s m c b := by
  obtain ⟨hx, hb, hr, hml, hown, hts, hX, hbl, hlocks, hgv⟩ := id C0
  have htG : ∀ w ∈ jm_G, w.before #[Value.ref b] s = true := fun w hw => hts w (List.mem_filter.mp hw).1
  have htT : ∀ w ∈ tables_1, w.before #[Value.ref b] s = true := fun w hw => hts w (List.mem_append_right _ hw)
  have hkn : ∀ k : Nat, ∃ q : ClassId × (Nat → Nat), k < 8 → u_Kn s (jm_tab k).1 (jm_tab k).2.1 (jm_tab k).2.2 q.1 q.2 := by
    intro k
    by_cases h : k < 8
    · obtain ⟨cC, iS, hK⟩ := u_known (n := (jm_tab k).2.2) htG (jm_G_u _ (List.mem_of_getElem? (jm_tab_get h))) (htG _ (lw_inst h))
      exact ⟨(cC, iS), fun _ => hK⟩
    · exact ⟨(0, fun _ => 0), fun q => absurd q h⟩
  obtain ⟨cI, kI, pI, i1, i2, i3⟩ := Cond.arrayClass_spec (htG _ jm_wint)
  obtain ⟨cB, kB, pB, b1, b2, b3⟩ := Cond.arrayClass_spec (htG _ jm_wboo)
  obtain ⟨pS, cS, kS, s1, s2, s3, s4, s5⟩ := Cond.arrayOver_spec (htT _ lw_aoI)
  obtain ⟨pA, cA, kA, a1, a2, a3, a4, a5⟩ := arrayOverA_spec (htT _ lw_aoA)
  have hA : ∀ a : Nat, a < s.heap.size → ¬ s.heap.size ≤ a := fun a h => by omega
  obtain ⟨t0, z0, T0⟩ := lw_st0 (A := fun q => s.heap.size ≤ q) hgv htT (htG _ (lw_init (c := 1) (by decide))) hA
  obtain ⟨t1, z1, T1⟩ := lw_st1 (A := fun q => s.heap.size ≤ q) hgv htT (htG _ (lw_init (c := 1) (by decide))) hA
  obtain ⟨t2, z2, T2⟩ := lw_st2 (A := fun q => s.heap.size ≤ q) hgv htT (htG _ (lw_init (c := 1) (by decide))) hA
  refine ⟨(s.heap.size, (fun k => (Classical.choose (hkn k)).1, fun k => (Classical.choose (hkn k)).2), (cI, cB, cS, cA), fun k => if k = 0 then t0 else if k = 1 then t1 else t2), hx, hb, hml, hown, htG, ⟨⟨fun k q hq => ?_, fun k q hq => ?_⟩, fun e he => ?_, fun k hk => ?_, va_AO.of (htT _ lw_aoI), htT _ lw_aoA⟩, rfl⟩
  · have hk : k < 8 := (List.getElem?_eq_some_iff.mp hq).1
    rw [jm_tab_get hk] at hq
    cases hq
    exact Classical.choose_spec (hkn k) hk
  · match k, hq with
    | 0, hq => cases hq; exact ⟨fun n z => ⟨fun k h => (by cases h), kI, i2, pI, i3⟩, i1⟩
    | 1, hq => cases hq; exact ⟨fun n z => ⟨fun k h => (by cases h), kB, b2, pB, b3⟩, b1⟩
    | 2, hq => cases hq; exact ⟨fun n z => ⟨fun k h => (by cases h), kS, s3, pS, s4⟩, kS, pS, s3, s4, s1, s5⟩
    | 3, hq => cases hq; exact ⟨fun n z => ⟨fun k h => (by cases h), kA, a3, pA, a4⟩, a5⟩
    | k + 4, hq => simp [jm_tys] at hq
  · exact va_Nw.of rfl (htT _ (lw_nest _ (List.mem_map_of_mem he)))
  · rcases (by omega : k = 0 ∨ k = 1 ∨ k = 2) with rfl | rfl | rfl
    · exact ⟨z0, T0⟩
    · exact ⟨z1, T1⟩
    · exact ⟨z2, T2⟩
