theorem jm_goodIn {μ ν : jm_Md} (h : Cond.code ν.1 ν.2.1 ν.2.2.1 ν.2.2.2.1 ∈ jm_G) : GoodIn (jm_ws μ) (jm_ws ν) := by
  intro w hw
  have hm : w ∈ jm_G := by
    rcases List.mem_cons.mp hw with rfl | q
    · exact h
    · exact q
  exact ⟨List.mem_cons_of_mem _ hm, good_of_word (List.mem_filter.mp hm).2⟩
set_option maxRecDepth 10000 in
theorem jm_nfw : nativeFrameWords "java/lang/System" "arraycopy" 5 ≤ 30 := by decide +kernel
theorem jm_contains {k : Nat} {l : List Nat} (h : l.contains k = true) : k ∈ l := by simpa using h
section JS
variable {p : Program} {l : Launch} {e : Env} {R : Room} {s : State} {m : MethodId} {args : Array Value} {below : List Frame} {meth : Method} {c : Code} {Q : State → Prop} {θ : jm_T} {μ : jm_Md} {n0 pc n d : Nat} {L S : List Value} {M M0 ME : jm_M} {rE : Option Value} {nx : jm_N} {H : Heap} {locs : List Loc} {cells slots : Nat}
theorem jm_go {ls : Array Slot} {st0 rest : List Value} {mc ms : Nat} {r : Option Value} {M1 : jm_M} {a : Array Value} (hr : va_Run p l e R s m args below meth c H locs cells slots mc ms (F0 m pc ls st0) rest (jm_Qc θ r M1 a) (jm_F θ)) (hS : va_S (jm_F θ) s.heap H locs)
    (kk : ∀ (H1 : Heap) (locs1 : List Loc), jm_H θ M1 H1 → va_S (jm_F θ) s.heap H1 locs1 → W p l e R s m args below meth c H1 locs1 (cells + mc) (slots + ms) Q (F0 m (pc + 3) ls ((r.map (jm_cv θ)).toList ++ rest))) : W p l e R s m args below meth c H locs cells slots Q (F0 m pc ls st0) := by
  intro T hT X
  obtain ⟨v, st₀, t, T', Lc, h0, X', hL, e1, e2, ⟨hv, hH, hz, hk⟩, st⟩ := hr T hT X
  cases hv
  rw [h0] at hz hk
  obtain ⟨t2, a1, b1⟩ := kk T'.heap (locs ++ Lc) (by rw [e1]; exact hH)
    ⟨Nat.le_trans hS.1 (by rw [e1]; exact hz), fun q h1 h2 => by rw [e1, hk q (Nat.lt_of_lt_of_le h1 hS.1) h2]; exact hS.2.1 q h1 h2, fun q hq => by
      rcases List.mem_append.mp hq with h | h
      · exact hS.2.2 q h
      · exact hL q h⟩ T' rfl X'
  exact ⟨t2, st t2 a1, b1⟩
theorem jm_W_cells {a b x y : Nat} {g : JFrame} (h1 : x = a) (h2 : y = b) (k : W p l e R s m args below meth c H locs a b Q g) : W p l e R s m args below meth c H locs x y Q g := by
  subst h1; subst h2; exact k
theorem jm_call_inv {ν : jm_Md} {As : List Value} {pc : Nat} {L S : List Value} {M : jm_M} {nx : jm_N} (h : jm_call ν As pc L S M = some nx) : jm_cs S ≤ 8 ∧ (jm_args As).length ≤ ν.2.2.1 ∧ nx = .inr (.inl (ν, As, pc, L, S, M)) := by
  unfold jm_call at h
  obtain ⟨h1, h2⟩ := jm_if_inv h
  simp only [Bool.and_eq_true, decide_eq_true_eq] at h1
  exact ⟨h1.1, h1.2, (Option.some.inj h2).symm⟩
theorem jm_stk {As S S1 : List Value} {n : Nat} (h : jm_pop n [] S = some (As, S1)) : As.length = n ∧ S.map (jm_cv θ) = (As.map (jm_cv θ)).reverse ++ S1.map (jm_cv θ) := by
  obtain ⟨h1, -, P, h2, h3⟩ := jm_pop_spec _ _ _ _ _ h
  refine ⟨by simpa using h1, ?_⟩
  rw [h2, h3]
  simp
theorem jm_s_invs (C : jm_X θ μ p s m args meth c) (hR : R = jm_rm d M0 ME) (hn0 : n0 = M0.1) (hQ : Q = MQ below (jm_Qc θ rE ME) args s (ME.1 - n0) (jm_sl ME.1 - jm_sl n0) (jm_F θ)) (hn : n0 ≤ M.1) {k : Nat} (hd : decode μ.2.1 pc = .ok (.invokestatic k, 3)) (hx : jm_invs d μ k (pc + 3) L S M = some nx) (ok : jm_Ok p l e R s m args below meth c Q θ μ n0 d ME rE nx) : jm_V p l e R s m args below meth c Q θ μ n0 (pc, L, S, M) := by
  unfold jm_invs at hx
  cases hcp : jm_cpyT.contains (jm_key μ k) with
  | true =>
    rw [hcp] at hx
    change jm_cpyx d (pc + 3) L S M = some nx at hx
    unfold jm_cpyx at hx
    split at hx
    · rename_i n dp b sp a S1
      obtain ⟨hi, hx⟩ := jm_if_inv hx
      cases hx
      simp only [Bool.and_eq_true, decide_eq_true_eq] at hi
      obtain ⟨⟨⟨⟨⟨⟨⟨⟨⟨h230, hdz⟩, hl4⟩, hia⟩, hib⟩, c1⟩, c2⟩, c3⟩, c4⟩, c5⟩ := hi
      obtain ⟨ha, hka⟩ := jm_is_iff hia
      obtain ⟨hb, hkb⟩ := jm_is_iff hib
      have hm := jm_contains hcp
      obtain ⟨k1, k2⟩ := jm_hd rfl (jm_goodY0 _ hm)
      have w1 := jm_goodY1 _ (List.mem_map_of_mem (f := fun k => Cond.methodLink (jm_own (k / 1000)) (k % 1000) arraycopyName) hm)
      rw [← k1, ← k2] at w1
      intro H locs ls h1 h2 h3
      have ha5 := jm_lt5 (a := a) (by omega)
      have hb5 := jm_lt5 (a := b) (by omega)
      show W p l e R s m args below meth c H locs (M.1 - n0) (jm_sl M.1 - jm_sl n0) Q (F0 m pc ls (.int n :: .int dp :: .ref (jm_ad θ b) :: .int sp :: .ref (jm_ad θ a) :: S1.map (jm_cv θ)))
      rw [jm_ad_lt ha5, jm_ad_lt hb5]
      have hls : c.maxLocals = ls.size := C.2.2.2.2.1.trans h3.1.symm
      refine va_copyi C.1 C.2.1 hls C.2.2.2.2.2.1 (C.2.2.2.2.2.2.1 _ (List.mem_cons_of_mem _ w1)) (C.2.2.2.2.2.2.1 _ (List.mem_cons_of_mem _ (jm_goodY2 _ (by simp)))) (C.2.2.2.2.2.2.1 _ (List.mem_cons_of_mem _ (jm_goodY2 _ (by simp)))) (C.2.2.2.2.2.2.1 _ (List.mem_cons_of_mem _ (jm_goodY2 _ (by simp)))) C.2.2.2.2.2.2.2.1.1 h1.2.2.2 jm_W_D (jm_S_rebase h2) a b 0 0 (by rw [jm_W_get ha, jm_E_int hka]) (by rw [jm_W_get hb, jm_E_int hkb]) rfl rfl rfl c1 c2 c3 c4 c5 (fun _ _ => rfl) (by rw [hR]; show 1 ≤ d; omega) (by rw [hR]; show _ ≤ 60 * d; have := jm_cat_le θ S1 hl4; have := jm_nfw; omega) hd (fun H1 locs1 hP hD hS => ?_)
      refine ok.2 H1 locs1 ls (jm_H_of' h1 hS.1 h230 rfl ?_) (jm_S_trans h2 hS) h3
      rw [jm_W_set (M' := (M.1, jm_cpy M.2.1 a b sp.toNatClampNeg dp.toNatClampNeg n.toNatClampNeg, M.2.2)) hb rfl (by rw [jm_E_int hkb]; unfold jm_cpy; simp) (fun q hq => jm_E_congr (by funext j; show jm_cpy _ _ _ _ _ _ q j = _; unfold jm_cpy; rw [if_neg hq]) rfl)] at hP
      exact hP
    · cases hx
  | false =>
  rw [hcp] at hx
  cases hmx : jm_maxT.contains (jm_key μ k) with
  | true =>
    rw [hmx] at hx
    change jm_mmx true d (pc + 3) L S M = some nx at hx
    unfold jm_mmx at hx
    split at hx
    · rename_i y x S1
      obtain ⟨hi, hx⟩ := jm_if_inv hx
      cases hx
      simp only [Bool.and_eq_true, decide_eq_true_eq] at hi
      have hm := jm_contains hmx
      obtain ⟨k1, k2⟩ := jm_hd rfl (jm_good_max0 _ hm)
      have w1 := jm_good_max1 _ (List.mem_map_of_mem (f := fun k => Cond.methodLink (jm_own (k / 1000)) (k % 1000) Lib.Math.max.name) hm)
      rw [← k1, ← k2] at w1
      intro H locs ls h1 h2 h3
      have hls : c.maxLocals = ls.size := C.2.2.2.2.1.trans h3.1.symm
      exact va_mmax C.1 C.2.1 hls C.2.2.2.2.2.1 (C.2.2.2.2.2.2.1 _ (List.mem_cons_of_mem _ w1)) (C.2.2.2.2.2.2.1 _ (List.mem_cons_of_mem _ (jm_good_max2 _ (by simp)))) (C.2.2.2.2.2.2.1 _ (List.mem_cons_of_mem _ (jm_good_max2 _ (by simp)))) (C.2.2.2.2.2.2.1 _ (List.mem_cons_of_mem _ (jm_good_max2 _ (by simp)))) (by rw [hR]; show 1 ≤ d; omega) (by rw [hR]; show _ ≤ 60 * d; have := jm_cat_le θ S1 hi.2; omega) (by rw [hR]; have := ok.1; show M.1 - n0 ≤ ME.1 - M0.1; dsimp only at this; omega) (by rw [hR]; have := jm_sl_mono ok.1; show jm_sl M.1 - jm_sl n0 ≤ jm_sl ME.1 - jm_sl M0.1; rw [← hn0]; dsimp only at this; omega) hd (ok.2 H locs ls h1 h2 h3)
    · cases hx
  | false =>
  rw [hmx] at hx
  cases hmn : jm_minT.contains (jm_key μ k) with
  | true =>
    rw [hmn] at hx
    change jm_mmx false d (pc + 3) L S M = some nx at hx
    unfold jm_mmx at hx
    split at hx
    · rename_i y x S1
      obtain ⟨hi, hx⟩ := jm_if_inv hx
      cases hx
      simp only [Bool.and_eq_true, decide_eq_true_eq] at hi
      have hm := jm_contains hmn
      obtain ⟨k1, k2⟩ := jm_hd rfl (jm_good_min0 _ hm)
      have w1 := jm_good_min1 _ (List.mem_map_of_mem (f := fun k => Cond.methodLink (jm_own (k / 1000)) (k % 1000) Lib.Math.min.name) hm)
      rw [← k1, ← k2] at w1
      intro H locs ls h1 h2 h3
      have hls : c.maxLocals = ls.size := C.2.2.2.2.1.trans h3.1.symm
      exact va_mmin C.1 C.2.1 hls C.2.2.2.2.2.1 (C.2.2.2.2.2.2.1 _ (List.mem_cons_of_mem _ w1)) (C.2.2.2.2.2.2.1 _ (List.mem_cons_of_mem _ (jm_good_min2 _ (by simp)))) (C.2.2.2.2.2.2.1 _ (List.mem_cons_of_mem _ (jm_good_min2 _ (by simp)))) (C.2.2.2.2.2.2.1 _ (List.mem_cons_of_mem _ (jm_good_min2 _ (by simp)))) (by rw [hR]; show 1 ≤ d; omega) (by rw [hR]; show _ ≤ 60 * d; have := jm_cat_le θ S1 hi.2; omega) (by rw [hR]; have := ok.1; show M.1 - n0 ≤ ME.1 - M0.1; dsimp only at this; omega) (by rw [hR]; have := jm_sl_mono ok.1; show jm_sl M.1 - jm_sl n0 ≤ jm_sl ME.1 - jm_sl M0.1; rw [← hn0]; dsimp only at this; omega) hd (ok.2 H locs ls h1 h2 h3)
    · cases hx
  | false =>
  rw [hmn] at hx
  unfold jm_if at hx
  dsimp only at hx
  split at hx
  · rename_i ν nn q hv
    split at hx
    · rename_i As S1 hpop
      obtain ⟨hq, hx⟩ := jm_if_inv hx
      have hq := of_decide_eq_true hq
      obtain ⟨hl4, hla, rfl⟩ := jm_call_inv hx
      obtain ⟨d1, r1, M1, hd1, hm1, hm2, hmet, ok4⟩ := ok
      dsimp only at hm1 hm2 hmet ok4
      have hin := jm_look_mem hv
      obtain ⟨g1, g2, g3, g4, g5, g6, g7, g8, gl, gs, gi, gsel, gn⟩ := jm_goodM _ hin
      obtain ⟨k1, k2⟩ := jm_hd rfl g1
      dsimp only at g1 g2 g3 g4 g5 g6 g7 g8 gl gs gi gsel gn k1 k2
      have hres : ∀ (H : Heap) (locs : List Loc) (ls : Array Slot), jm_H θ M1 H → va_S (jm_F θ) s.heap H locs → jm_Lo θ μ.2.2.1 ls L → W p l e R s m args below meth c H locs (M.1 - n0 + (M1.1 - M.1)) (jm_sl M.1 - jm_sl n0 + (jm_sl M1.1 - jm_sl M.1)) Q (F0 m (pc + 3) ls ((r1.map (jm_cv θ)).toList ++ S1.map (jm_cv θ))) := fun H locs ls q1 q2 q3 => by
        refine jm_W_cells (by have := hn; omega) (by have := jm_sl_mono hn; have := jm_sl_mono hm1; omega) (?_ : W p l e R s m args below meth c H locs (M1.1 - n0) (jm_sl M1.1 - jm_sl n0) Q _)
        have := ok4 H locs ls q1 q2 q3
        dsimp only at this
        rw [List.map_append] at this
        cases r1 <;> exact this
      intro H locs ls h1 h2 h3
      obtain ⟨z1, z2⟩ := jm_stk (θ := θ) hpop
      refine jm_go (a := (As.map (jm_cv θ)).toArray) (mc := M1.1 - M.1) (ms := jm_sl M1.1 - jm_sl M.1) (rest := S1.map (jm_cv θ)) (r := r1) (M1 := M1) ?_ h2 (fun H1 locs1 hH hS => hres H1 locs1 ls hH hS h3)
      rcases hq with hq | hq
      · subst hq
        have hl := gl (by decide)
        rw [← k1, ← k2] at hl
        exact va_runS (As := As.map (jm_cv θ)) (Ts := jm_ws μ) (own := jm_own μ.2.2.2.2) (n := nn) (bytes := ν.2.1) (maxL := ν.2.2.1) (ret := ν.2.2.2.1) ⟨C.1, C.2.1, C.2.2.2.2.1, C.2.2.2.2.2.1, C.2.2.2.2.2.2.1⟩ hmet ⟨callB_of nn C.2.2.2.2.2.2.1 (jm_goodIn g2) rfl rfl rfl (C.2.2.2.2.2.2.1 _ (List.mem_cons_of_mem _ g3)) (C.2.2.2.2.2.2.1 _ (List.mem_cons_of_mem _ hl)) g6 ⟨by rw [hR, hd1]; exact Nat.le_refl _, by rw [hR, hd1]; show 8 + (_ + 11) + 60 * d1 ≤ 60 * (d1 + 1); omega⟩, C.2.2.2.2.2.2.1 _ (List.mem_cons_of_mem _ (gs (Or.inl rfl)))⟩ ⟨jm_blind, fun U hU hW => ⟨rfl, by rw [hU]; exact h1, (C.2.2.2.2.2.2.2.1).warm hW (fun a q1 q2 => by rw [hU]; exact h2.2.1 a q1 q2)⟩⟩ rfl (by simpa using z1) h3.1 z2 (lv_room (jm_cat_le θ S1 hl4)) hd ⟨by rw [hR]; show M.1 - n0 + (M1.1 - M.1) ≤ ME.1 - M0.1; omega, by rw [hR]; show jm_sl M.1 - jm_sl n0 + (jm_sl M1.1 - jm_sl M.1) ≤ jm_sl ME.1 - jm_sl M0.1; rw [← hn0]; have := jm_sl_mono hn; have := jm_sl_mono hm1; have := jm_sl_mono hm2; omega⟩
      · subst hq
        have hl : va_Nw (.methodLinkNest (jm_own μ.2.2.2.2) k ν.1 RX6) s := by
          have := C.2.2.2.2.2.2.2.1.2.1 _ (List.mem_filter.mpr ⟨hin, rfl⟩)
          unfold jm_nw at this
          dsimp only at this
          rw [← k1, ← k2] at this
          exact this
        exact va_runSN (As := As.map (jm_cv θ)) (Ts := jm_ws μ) (own := jm_own μ.2.2.2.2) (host := RX6) (n := nn) (bytes := ν.2.1) (maxL := ν.2.2.1) (ret := ν.2.2.2.1) ⟨C.1, C.2.1, C.2.2.2.2.1, C.2.2.2.2.2.1, C.2.2.2.2.2.2.1⟩ hmet ⟨va_cnB nn C.2.2.2.2.2.2.1 (jm_goodIn g2) rfl rfl rfl hl (C.2.2.2.2.2.2.1 _ (List.mem_cons_of_mem _ g3)) g6 ⟨by rw [hR, hd1]; exact Nat.le_refl _, by rw [hR, hd1]; show 8 + (_ + 11) + 60 * d1 ≤ 60 * (d1 + 1); omega⟩, C.2.2.2.2.2.2.1 _ (List.mem_cons_of_mem _ (gs (Or.inr rfl))), trivial⟩ ⟨jm_blind, fun U hU hW => ⟨rfl, by rw [hU]; exact h1, (C.2.2.2.2.2.2.2.1).warm hW (fun a q1 q2 => by rw [hU]; exact h2.2.1 a q1 q2)⟩⟩ rfl (by simpa using z1) h3.1 z2 (lv_room (jm_cat_le θ S1 hl4)) hd ⟨by rw [hR]; show M.1 - n0 + (M1.1 - M.1) ≤ ME.1 - M0.1; omega, by rw [hR]; show jm_sl M.1 - jm_sl n0 + (jm_sl M1.1 - jm_sl M.1) ≤ jm_sl ME.1 - jm_sl M0.1; rw [← hn0]; have := jm_sl_mono hn; have := jm_sl_mono hm1; have := jm_sl_mono hm2; omega⟩
    · cases hx
  · cases hx
theorem jm_s_invv (C : jm_X θ μ p s m args meth c) (hR : R = jm_rm d M0 ME) (hn0 : n0 = M0.1) (hQ : Q = MQ below (jm_Qc θ rE ME) args s (ME.1 - n0) (jm_sl ME.1 - jm_sl n0) (jm_F θ)) (hn : n0 ≤ M.1) {k : Nat} (hd : decode μ.2.1 pc = .ok (.invokevirtual k, 3)) (hx : jm_invv μ k (pc + 3) L S M = some nx) (ok : jm_Ok p l e R s m args below meth c Q θ μ n0 d ME rE nx) : jm_V p l e R s m args below meth c Q θ μ n0 (pc, L, S, M) := by
  unfold jm_invv at hx
  split at hx
  · rename_i ν nn q hv
    split at hx
    · rename_i As a S1 hpop
      obtain ⟨hq, hx⟩ := jm_if_inv hx
      simp only [Bool.and_eq_true, decide_eq_true_eq] at hq
      obtain ⟨hi, hq⟩ := hq
      obtain ⟨ha, hk⟩ := jm_is_iff hi
      obtain ⟨hl4, hla, rfl⟩ := jm_call_inv hx
      obtain ⟨d1, r1, M1, hd1, hm1, hm2, hmet, ok4⟩ := ok
      dsimp only at hm1 hm2 hmet ok4
      have hin := jm_look_mem hv
      obtain ⟨g1, g2, g3, g4, g5, g6, g7, g8, gl, gs, gi, gsel, gn⟩ := jm_goodM _ hin
      obtain ⟨k1, k2⟩ := jm_hd rfl g1
      dsimp only at g1 g2 g3 g4 g5 g6 g7 g8 gl gs gi gsel gn k1 k2
      have hres : ∀ (H : Heap) (locs : List Loc) (ls : Array Slot), jm_H θ M1 H → va_S (jm_F θ) s.heap H locs → jm_Lo θ μ.2.2.1 ls L → W p l e R s m args below meth c H locs (M.1 - n0 + (M1.1 - M.1)) (jm_sl M.1 - jm_sl n0 + (jm_sl M1.1 - jm_sl M.1)) Q (F0 m (pc + 3) ls ((r1.map (jm_cv θ)).toList ++ S1.map (jm_cv θ))) := fun H locs ls q1 q2 q3 => by
        refine jm_W_cells (by have := hn; omega) (by have := jm_sl_mono hn; have := jm_sl_mono hm1; omega) (?_ : W p l e R s m args below meth c H locs (M1.1 - n0) (jm_sl M1.1 - jm_sl n0) Q _)
        have := ok4 H locs ls q1 q2 q3
        dsimp only at this
        rw [List.map_append] at this
        cases r1 <;> exact this
      intro H locs ls h1 h2 h3
      subst hq
      have g9 := gi (Or.inl rfl)
      have ha5 := jm_lt5 (a := a) (by omega)
      obtain ⟨z1, z2⟩ := jm_stk (θ := θ) hpop
      have z3 : S.map (jm_cv θ) = (As.map (jm_cv θ)).reverse ++ .ref (θ.1 + a) :: S1.map (jm_cv θ) := by
        rw [z2]
        show _ ++ Value.ref (jm_ad θ a) :: _ = _
        rw [jm_ad_lt ha5]
      refine jm_go (a := (Value.ref (θ.1 + a) :: As.map (jm_cv θ)).toArray) (mc := M1.1 - M.1) (ms := jm_sl M1.1 - jm_sl M.1) (rest := S1.map (jm_cv θ)) (r := r1) (M1 := M1) ?_ h2 (fun H1 locs1 hH hS => hres H1 locs1 ls hH hS h3)
      have hl := gl (by decide)
      rw [← k1, ← k2] at hl
      have ec : (jm_tab ν.2.2.2.2).1 = ν.1.cls := g9.2.2
      have hmet' : Met l ν.1 (jm_ws ν) (jm_rm d1 M M1) (va_Pc (.ref (θ.1 + a) :: As.map (jm_cv θ)) (fun U => jm_H θ M U.heap ∧ jm_Q θ U U.heap)) (jm_Qc θ r1 M1) (M1.1 - M.1) (jm_sl M1.1 - jm_sl M.1) (jm_F θ) := by
        have := hmet
        unfold jm_Met jm_Pc at this
        rw [show (Value.ref a :: As).map (jm_cv θ) = .ref (θ.1 + a) :: As.map (jm_cv θ) by show Value.ref (jm_ad θ a) :: _ = _; rw [jm_ad_lt ha5]] at this
        exact this
      have hbl : FrameBlind (va_Pc (.ref (θ.1 + a) :: As.map (jm_cv θ)) (fun U => jm_H θ M U.heap ∧ jm_Q θ U U.heap)) := by
        have := jm_blind (θ := θ) (As := .ref a :: As) (M := M)
        unfold jm_Pc at this
        rw [show (Value.ref a :: As).map (jm_cv θ) = .ref (θ.1 + a) :: As.map (jm_cv θ) by show Value.ref (jm_ad θ a) :: _ = _; rw [jm_ad_lt ha5]] at this
        exact this
      exact va_runV (As := As.map (jm_cv θ)) (b := θ.1 + a) (C := (jm_tab ν.2.2.2.2).1) (Ts := jm_ws μ) (own := jm_own μ.2.2.2.2) (n := nn) (bytes := ν.2.1) (maxL := ν.2.2.1) (ret := ν.2.2.2.1) ⟨C.1, C.2.1, C.2.2.2.2.1, C.2.2.2.2.2.1, C.2.2.2.2.2.2.1⟩ hmet' ⟨callB_of nn C.2.2.2.2.2.2.1 (jm_goodIn g2) rfl rfl rfl (C.2.2.2.2.2.2.1 _ (List.mem_cons_of_mem _ g3)) (C.2.2.2.2.2.2.1 _ (List.mem_cons_of_mem _ hl)) g6 ⟨by rw [hR, hd1]; exact Nat.le_refl _, by rw [hR, hd1]; show 8 + (_ + 11) + 60 * d1 ≤ 60 * (d1 + 1); omega⟩, C.2.2.2.2.2.2.1 _ (List.mem_cons_of_mem _ g9.1), by rw [ec]; exact C.2.2.2.2.2.2.1 _ (List.mem_cons_of_mem _ (gsel rfl))⟩ ⟨hbl, va_recv C.2.2.2.2.2.2.2.1.1 h1.2.2.2 (jm_tab_get g9.2.1) (q0 := a) (by rw [jm_W_get ha, jm_E_obj hk g9.2.1]), fun U hU hW => ⟨rfl, by rw [hU]; exact h1, (C.2.2.2.2.2.2.2.1).warm hW (fun a q1 q2 => by rw [hU]; exact h2.2.1 a q1 q2)⟩⟩ rfl (by simpa using z1) h3.1 z3 (lv_room (jm_cat_le θ S1 hl4)) hd ⟨by rw [hR]; show M.1 - n0 + (M1.1 - M.1) ≤ ME.1 - M0.1; omega, by rw [hR]; show jm_sl M.1 - jm_sl n0 + (jm_sl M1.1 - jm_sl M.1) ≤ jm_sl ME.1 - jm_sl M0.1; rw [← hn0]; have := jm_sl_mono hn; have := jm_sl_mono hm1; have := jm_sl_mono hm2; omega⟩
    · cases hx
  · cases hx
theorem jm_s_invi (C : jm_X θ μ p s m args meth c) (hR : R = jm_rm d M0 ME) (hn0 : n0 = M0.1) (hQ : Q = MQ below (jm_Qc θ rE ME) args s (ME.1 - n0) (jm_sl ME.1 - jm_sl n0) (jm_F θ)) (hn : n0 ≤ M.1) {k : Nat} (hd : decode μ.2.1 pc = .ok (.invokespecial k, 3)) (hx : jm_invi d μ k (pc + 3) L S M = some nx) (ok : jm_Ok p l e R s m args below meth c Q θ μ n0 d ME rE nx) : jm_V p l e R s m args below meth c Q θ μ n0 (pc, L, S, M) := by
  unfold jm_invi at hx
  cases hob : jm_objT.contains (jm_key μ k) with
  | true =>
    rw [hob] at hx
    unfold jm_if at hx
    dsimp only at hx
    split at hx
    · rename_i a S1
      obtain ⟨hi, hx⟩ := jm_if_inv hx
      cases hx
      simp only [Bool.and_eq_true, decide_eq_true_eq] at hi
      have hm := jm_contains hob
      obtain ⟨k1, k2⟩ := jm_hd rfl (jm_goodO0 _ hm)
      have w1 := jm_goodO1 _ (List.mem_map_of_mem (f := fun k => Cond.methodLink (jm_own (k / 1000)) (k % 1000) Lib.objectInit) hm)
      rw [← k1, ← k2] at w1
      intro H locs ls h1 h2 h3
      exact W.objInit C.1 C.2.1 C.2.2.2.2.2.1 (C.2.2.2.2.2.2.1 _ (List.mem_cons_of_mem _ w1)) (C.2.2.2.2.2.2.1 _ (List.mem_cons_of_mem _ (jm_goodO2 _ (by simp)))) (C.2.2.2.2.2.2.1 _ (List.mem_cons_of_mem _ (jm_goodO2 _ (by simp)))) rfl (h3.1.trans C.2.2.2.2.1.symm) rfl hd (by rw [hR]; show 1 ≤ d; omega) (by rw [hR]; show 2 * 0 + _ + 12 ≤ 60 * d; have := jm_cat_le θ S1 hi.2; omega) (ok.2 H locs ls h1 h2 h3)
    · cases hx
  | false =>
  rw [hob] at hx
  unfold jm_if at hx
  dsimp only at hx
  split at hx
  · rename_i ν nn q hv
    split at hx
    · rename_i As a S1 hpop
      obtain ⟨hq, hx⟩ := jm_if_inv hx
      simp only [Bool.and_eq_true, decide_eq_true_eq] at hq
      obtain ⟨hi, hq⟩ := hq
      obtain ⟨ha, hk⟩ := jm_is_iff hi
      obtain ⟨hl4, hla, rfl⟩ := jm_call_inv hx
      obtain ⟨d1, r1, M1, hd1, hm1, hm2, hmet, ok4⟩ := ok
      dsimp only at hm1 hm2 hmet ok4
      have hin := jm_look_mem hv
      obtain ⟨g1, g2, g3, g4, g5, g6, g7, g8, gl, gs, gi, gsel, gn⟩ := jm_goodM _ hin
      obtain ⟨k1, k2⟩ := jm_hd rfl g1
      dsimp only at g1 g2 g3 g4 g5 g6 g7 g8 gl gs gi gsel gn k1 k2
      have hres : ∀ (H : Heap) (locs : List Loc) (ls : Array Slot), jm_H θ M1 H → va_S (jm_F θ) s.heap H locs → jm_Lo θ μ.2.2.1 ls L → W p l e R s m args below meth c H locs (M.1 - n0 + (M1.1 - M.1)) (jm_sl M.1 - jm_sl n0 + (jm_sl M1.1 - jm_sl M.1)) Q (F0 m (pc + 3) ls ((r1.map (jm_cv θ)).toList ++ S1.map (jm_cv θ))) := fun H locs ls q1 q2 q3 => by
        refine jm_W_cells (by have := hn; omega) (by have := jm_sl_mono hn; have := jm_sl_mono hm1; omega) (?_ : W p l e R s m args below meth c H locs (M1.1 - n0) (jm_sl M1.1 - jm_sl n0) Q _)
        have := ok4 H locs ls q1 q2 q3
        dsimp only at this
        rw [List.map_append] at this
        cases r1 <;> exact this
      intro H locs ls h1 h2 h3
      have g9 := gi (by omega)
      have gn2 := gn hq
      have ha5 := jm_lt5 (a := a) (by omega)
      obtain ⟨z1, z2⟩ := jm_stk (θ := θ) hpop
      have z3 : S.map (jm_cv θ) = (As.map (jm_cv θ)).reverse ++ .ref (jm_ad θ a) :: S1.map (jm_cv θ) := z2
      refine jm_go (a := (Value.ref (jm_ad θ a) :: As.map (jm_cv θ)).toArray) (mc := M1.1 - M.1) (ms := jm_sl M1.1 - jm_sl M.1) (rest := S1.map (jm_cv θ)) (r := r1) (M1 := M1) ?_ h2 (fun H1 locs1 hH hS => hres H1 locs1 ls hH hS h3)
      rcases hq with hq | hq
      · subst hq
        have hl := gl (by decide)
        rw [← k1, ← k2] at hl
        have e4 := gn2.2
        exact va_runI (As := As.map (jm_cv θ)) (b := jm_ad θ a) (Ts := jm_ws μ) (own := jm_own μ.2.2.2.2) (n := nn) (bytes := ν.2.1) (maxL := ν.2.2.1) ⟨C.1, C.2.1, C.2.2.2.2.1, C.2.2.2.2.2.1, C.2.2.2.2.2.2.1⟩ hmet ⟨by rw [← e4]; exact callB_of nn C.2.2.2.2.2.2.1 (jm_goodIn g2) rfl rfl rfl (C.2.2.2.2.2.2.1 _ (List.mem_cons_of_mem _ g3)) (C.2.2.2.2.2.2.1 _ (List.mem_cons_of_mem _ hl)) g6 ⟨by rw [hR, hd1]; exact Nat.le_refl _, by rw [hR, hd1]; show 8 + (_ + 11) + 60 * d1 ≤ 60 * (d1 + 1); omega⟩, gn2.1, C.2.2.2.2.2.2.1 _ (List.mem_cons_of_mem _ g9.1)⟩ ⟨jm_blind, fun U hU hW => ⟨rfl, by rw [hU]; exact h1, (C.2.2.2.2.2.2.2.1).warm hW (fun a q1 q2 => by rw [hU]; exact h2.2.1 a q1 q2)⟩⟩ rfl (by simpa using z1) h3.1 z3 (lv_room (jm_cat_le θ S1 hl4)) hd ⟨by rw [hR]; show M.1 - n0 + (M1.1 - M.1) ≤ ME.1 - M0.1; omega, by rw [hR]; show jm_sl M.1 - jm_sl n0 + (jm_sl M1.1 - jm_sl M.1) ≤ jm_sl ME.1 - jm_sl M0.1; rw [← hn0]; have := jm_sl_mono hn; have := jm_sl_mono hm1; have := jm_sl_mono hm2; omega⟩
      · subst hq
        have hl : va_Nw (.methodLinkNest (jm_own μ.2.2.2.2) k ν.1 RX6) s := by
          have := C.2.2.2.2.2.2.2.1.2.1 _ (List.mem_filter.mpr ⟨hin, rfl⟩)
          unfold jm_nw at this
          dsimp only at this
          rw [← k1, ← k2] at this
          exact this
        have e4 := gn2.2
        exact va_runIN (As := As.map (jm_cv θ)) (b := jm_ad θ a) (Ts := jm_ws μ) (own := jm_own μ.2.2.2.2) (host := RX6) (n := nn) (bytes := ν.2.1) (maxL := ν.2.2.1) ⟨C.1, C.2.1, C.2.2.2.2.1, C.2.2.2.2.2.1, C.2.2.2.2.2.2.1⟩ hmet ⟨by rw [← e4]; exact va_cnB nn C.2.2.2.2.2.2.1 (jm_goodIn g2) rfl rfl rfl hl (C.2.2.2.2.2.2.1 _ (List.mem_cons_of_mem _ g3)) g6 ⟨by rw [hR, hd1]; exact Nat.le_refl _, by rw [hR, hd1]; show 8 + (_ + 11) + 60 * d1 ≤ 60 * (d1 + 1); omega⟩, gn2.1, C.2.2.2.2.2.2.1 _ (List.mem_cons_of_mem _ g9.1)⟩ ⟨jm_blind, fun U hU hW => ⟨rfl, by rw [hU]; exact h1, (C.2.2.2.2.2.2.2.1).warm hW (fun a q1 q2 => by rw [hU]; exact h2.2.1 a q1 q2)⟩⟩ rfl (by simpa using z1) h3.1 z3 (lv_room (jm_cat_le θ S1 hl4)) hd ⟨by rw [hR]; show M.1 - n0 + (M1.1 - M.1) ≤ ME.1 - M0.1; omega, by rw [hR]; show jm_sl M.1 - jm_sl n0 + (jm_sl M1.1 - jm_sl M.1) ≤ jm_sl ME.1 - jm_sl M0.1; rw [← hn0]; have := jm_sl_mono hn; have := jm_sl_mono hm1; have := jm_sl_mono hm2; omega⟩
    · cases hx
  · cases hx
theorem jm_s_ret (C : jm_X θ μ p s m args meth c) (hR : R = jm_rm d M0 ME) (hn0 : n0 = M0.1) (hQ : Q = MQ below (jm_Qc θ rE ME) args s (ME.1 - n0) (jm_sl ME.1 - jm_sl n0) (jm_F θ)) (hn : n0 ≤ M.1) (hd : decode μ.2.1 pc = .ok (.ireturn, 1)) (hx : jm_ret μ S M = some nx) (ok : jm_Ok p l e R s m args below meth c Q θ μ n0 d ME rE nx) : jm_V p l e R s m args below meth c Q θ μ n0 (pc, L, S, M) := by
  unfold jm_ret at hx
  split at hx
  · rename_i v
    split at hx
    · rename_i hret
      cases hx
      cases ok
      intro H locs ls h1 h2 h3
      subst hQ
      exact W.iret C.1 C.2.1 (C.2.2.1.trans hret) (fun t ht hW => ⟨rfl, by rw [ht]; exact h1, h2.F ht⟩) h2.2.2 hd (hlocks := C.2.2.2.1)
    · rename_i hret
      obtain ⟨hv, hx⟩ := jm_if_inv hx
      have hv := of_decide_eq_true hv
      cases hx
      cases ok
      intro H locs ls h1 h2 h3
      subst hQ
      exact W.zret C.1 C.2.1 (C.2.2.1.trans hret) (by rcases hv with rfl | rfl <;> rfl) (fun t ht hW => ⟨rfl, by rw [ht]; exact h1, h2.F ht⟩) h2.2.2 hd (hlocks := C.2.2.2.1)
    · cases hx
  · cases hx
theorem jm_s_retl (C : jm_X θ μ p s m args meth c) (hR : R = jm_rm d M0 ME) (hn0 : n0 = M0.1) (hQ : Q = MQ below (jm_Qc θ rE ME) args s (ME.1 - n0) (jm_sl ME.1 - jm_sl n0) (jm_F θ)) (hn : n0 ≤ M.1) (hd : decode μ.2.1 pc = .ok (.lreturn, 1)) (hx : jm_retl μ S M = some nx) (ok : jm_Ok p l e R s m args below meth c Q θ μ n0 d ME rE nx) : jm_V p l e R s m args below meth c Q θ μ n0 (pc, L, S, M) := by
  unfold jm_retl at hx
  split at hx
  · rename_i v hret
    cases hx
    cases ok
    intro H locs ls h1 h2 h3
    subst hQ
    exact W.lret C.1 C.2.1 (C.2.2.1.trans hret) (fun t ht hW => ⟨rfl, by rw [ht]; exact h1, h2.F ht⟩) h2.2.2 hd (hlocks := C.2.2.2.1)
  · cases hx
theorem jm_s_reta (C : jm_X θ μ p s m args meth c) (hR : R = jm_rm d M0 ME) (hn0 : n0 = M0.1) (hQ : Q = MQ below (jm_Qc θ rE ME) args s (ME.1 - n0) (jm_sl ME.1 - jm_sl n0) (jm_F θ)) (hn : n0 ≤ M.1) (hd : decode μ.2.1 pc = .ok (.areturn, 1)) (hx : jm_reta μ S M = some nx) (ok : jm_Ok p l e R s m args below meth c Q θ μ n0 d ME rE nx) : jm_V p l e R s m args below meth c Q θ μ n0 (pc, L, S, M) := by
  unfold jm_reta at hx
  split at hx
  · rename_i v q hret
    cases hx
    cases ok
    intro H locs ls h1 h2 h3
    subst hQ
    exact W.aret C.1 C.2.1 (C.2.2.1.trans hret) (Or.inl ⟨_, rfl⟩) (Or.inr ⟨_, rfl⟩) (fun t ht hW => ⟨rfl, by rw [ht]; exact h1, h2.F ht⟩) h2.2.2 hd (hlocks := C.2.2.2.1)
  · cases hx
theorem jm_s_retv (C : jm_X θ μ p s m args meth c) (hR : R = jm_rm d M0 ME) (hn0 : n0 = M0.1) (hQ : Q = MQ below (jm_Qc θ rE ME) args s (ME.1 - n0) (jm_sl ME.1 - jm_sl n0) (jm_F θ)) (hn : n0 ≤ M.1) (hd : decode μ.2.1 pc = .ok (.return_, 1)) (hx : jm_retv μ S M = some nx) (ok : jm_Ok p l e R s m args below meth c Q θ μ n0 d ME rE nx) : jm_V p l e R s m args below meth c Q θ μ n0 (pc, L, S, M) := by
  unfold jm_retv at hx
  split at hx
  · rename_i hret
    cases hx
    cases ok
    intro H locs ls h1 h2 h3
    subst hQ
    exact W.vret C.1 C.2.1 (C.2.2.1.trans hret) (fun t ht hW => ⟨rfl, by rw [ht]; exact h1, h2.F ht⟩) h2.2.2 hd (hlocks := C.2.2.2.1)
  · cases hx
end JS
