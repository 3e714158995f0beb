theorem vr_outer (c : ClassId) (N h0 : Nat) : ∀ i : Nat, Jvm.Free.Multi.outerC c N h0 i = arrV c N (fun j => va_rf (if j < i then some (h0 + 1 + j) else none))
  | 0 => by
    show ({ cls := c, slots := Array.replicate N .null, vm := .none } : Cell) = _
    rw [arrV_new]
    refine congrArg (arrV c N) (funext fun j => ?_)
    simp [va_rf]
  | i + 1 => by
    show (Jvm.Free.Multi.outerC c N h0 i).setSlot i (.ref (h0 + 1 + i)) = _
    rw [vr_outer c N h0 i, arrV_store]
    refine congrArg (arrV c N) (funext fun j => ?_)
    by_cases e : j = i
    · subst e
      simp [updV, va_rf]
    · by_cases h : j < i
      · simp [updV, e, h, Nat.lt_succ_of_lt h]
      · simp [updV, e, h, show ¬ j < i + 1 by omega]
theorem jm_wgrid : Cond.classLink RX3 9 ("[" ++ (FieldType.array .int).toString) ∈ jm_G := jm_memG (List.mem_of_getElem? (i := 26) (by decide +kernel)) (by decide +kernel)
theorem jm_wint : Cond.arrayClass .int ∈ jm_G := jm_memG (List.mem_of_getElem? (i := 39) (by decide +kernel)) (by decide +kernel)
theorem jm_wboo : Cond.arrayClass .boolean ∈ jm_G := jm_memG (List.mem_of_getElem? (i := 783) (by decide +kernel)) (by decide +kernel)
set_option maxRecDepth 10000 in
theorem jm_dfl' : ∀ c, c < 8 → ∀ j, j < 23 → j < (jm_tab c).2.2 → defaultValue (jm_tyk c j) = if jm_rf c j = true then .null else .int 0 := by decide +kernel
set_option maxRecDepth 10000 in
theorem jm_N23 : ∀ c, c < 8 → (jm_tab c).2.2 ≤ 23 := by decide +kernel
theorem jm_grow_old {θ : jm_T} {M : jm_M} {b : Nat} (h : b < M.1) : jm_E θ (jm_grow M) b = jm_E θ M b := jm_E_congr (by funext j; show (if b = M.1 then _ else _) = _; rw [if_neg (by omega)]) (by funext j; show (if b = M.1 then _ else _) = _; rw [if_neg (by omega)])
section JS
variable {p : Program} {l : Launch} {e : Env} {R : Room} {s : State} {m : MethodId} {args : Array Value} {below : List Frame} {meth : Method} {c : Code} {Q : State → Prop} {θ : jm_T} {μ : jm_Md} {n0 pc n d : Nat} {L S : List Value} {M M0 ME : jm_M} {rE : Option Value} {nx : jm_N} {H : Heap} {locs : List Loc} {cells slots : Nat}
/-- one cell more -/
theorem jm_H_push {H1 : Heap} {x : Cell} (h : jm_H θ M H) (hM : M.1 < 230) (e1 : H1[θ.1 + M.1]? = some x) (z1 : H1.size = θ.1 + M.1 + 1) (o1 : ∀ q, q < θ.1 + M.1 → H1[q]? = H[q]?) (hx : va_at θ.2.1 vwCl (θ.1 + M.1, jm_E θ (jm_grow M) M.1) H1) : jm_H θ (jm_grow M) H1 := by
  have hz := h.2.1 hM
  refine ⟨by omega, fun _ => by rw [z1]; show _ = θ.1 + (M.1 + 1); omega, by show M.1 + 1 ≤ 230; omega, ?_⟩
  rw [← jm_W_push (M := M) (M' := jm_grow M) rfl rfl (fun b hb => jm_grow_old hb)]
  refine (h.2.2.2.kept (fun k x hx => o1 x.1 (by have := (h.2.2.2 k x hx).lt; omega))).app (fun k x hx2 => ?_)
  have hk : k < 1 := (List.getElem?_eq_some_iff.mp hx2).1
  rw [show k = 0 by omega] at hx2
  cases hx2
  exact hx
theorem jm_S_push {H1 : Heap} (h : va_S (jm_F θ) s.heap H locs) (z1 : H1.size = H.size + 1) (o1 : ∀ q, q < H.size → H1[q]? = H[q]?) : va_S (jm_F θ) s.heap H1 locs := ⟨Nat.le_trans h.1 (by omega), fun x h1 h2 => (o1 x (Nat.lt_of_lt_of_le h1 h.1)).trans (h.2.1 x h1 h2), h.2.2⟩
theorem jm_room1 (hR : R = jm_rm d M0 ME) (hn0 : n0 = M0.1) (hQ : Q = MQ below (jm_Qc θ rE ME) args s (ME.1 - n0) (jm_sl ME.1 - jm_sl n0) (jm_F θ)) (hn : n0 ≤ M.1) (hok : M.1 + 1 ≤ ME.1) : (M.1 - n0) + 1 ≤ R.cells ∧ (jm_sl M.1 - jm_sl n0) + jm_ln M.1 ≤ R.slots := by
  have a1 := jm_sl_mono hn
  have a2 := jm_sl_mono hok
  rw [jm_sl_step] at a2
  rw [hR]
  constructor
  · show _ ≤ ME.1 - M0.1; omega
  · show _ ≤ jm_sl ME.1 - jm_sl M0.1; rw [← hn0]; omega
theorem jm_s_new (C : jm_X θ μ p s m args meth c) (hR : R = jm_rm d M0 ME) (hn0 : n0 = M0.1) (hQ : Q = MQ below (jm_Qc θ rE ME) args s (ME.1 - n0) (jm_sl ME.1 - jm_sl n0) (jm_F θ)) (hn : n0 ≤ M.1) {k : Nat} (hd : decode μ.2.1 pc = .ok (.new k, 3)) (hx : jm_newo μ k (pc + 3) L S M = some nx) (ok : jm_Ok p l e R s m args below meth c Q θ μ n0 d ME rE nx) : jm_V p l e R s m args below meth c Q θ μ n0 (pc, L, S, M) := by
  unfold jm_newo at hx
  split at hx
  · rename_i ci hv
    obtain ⟨hi, hx⟩ := jm_if_inv hx
    have hk := of_decide_eq_true hi
    cases hx
    have hm := jm_look_mem hv
    obtain ⟨g1, g2⟩ := jm_goodN0 _ hm
    have w1 := jm_goodN1a hm
    have w2 := jm_goodN2a hm
    have w3 := jm_goodN3a hm
    obtain ⟨g5, g6⟩ := jm_hd rfl g1
    dsimp only at g1 g2 g5 g6 w1 w2 w3
    rw [← g5, ← g6] at w1
    intro H locs ls h1 h2 h3
    have hM : M.1 < 230 := jm_kd_lt (by omega)
    have hz := h1.2.1 hM
    dsimp only at hz
    have hln := jm_ln_tab (a := M.1) (by omega)
    rw [hk] at hln
    have hrm := jm_room1 hR hn0 hQ hn ok.1
    have hKn := C.2.2.2.2.2.2.2.1.1.1 ci _ (jm_tab_get g2)
    have hts := C.2.2.2.2.2.2.1
    refine W.newcK C.1 C.2.1 C.2.2.2.2.2.1 (hts _ (List.mem_cons_of_mem _ w1)) (hts _ (List.mem_cons_of_mem _ w2)) (hts _ (List.mem_cons_of_mem _ w3)) rfl hd hrm.1 (by rw [← hln]; exact hrm.2) hKn.2.1 hz fun H1 kC hkC e1 z1 o1 => ?_
    have hin : ∀ w ∈ u_ws (jm_tab ci).1 (jm_tab ci).2.1 (jm_tab ci).2.2, w ∈ jm_ws μ := fun w hw => List.mem_cons_of_mem _ (jm_G_u _ (List.mem_of_getElem? (jm_tab_get g2)) w hw)
    have hob : t_OB (θ.1 + M.1) (θ.2.1.1 ci) (jm_tab ci).2.2 (θ.2.1.2 ci) H1 (vp_V ((List.range (jm_ln M.1)).map (jm_fv θ (jm_grow M) ci M.1))) := (u_born (jm_tyk ci) hts hin hKn hkC e1 (jm_tyk_ok g2)).to (fun j hj => by
      rw [jm_dfl' ci g2 j (by have := jm_N23 ci g2; omega) hj]
      unfold vp_V
      rw [List.getD_eq_getElem?_getD, jm_fs_get (by omega)]
      unfold jm_fv jm_grow
      cases jm_rf ci j <;> simp [jm_rq, va_rf])
    have := ok.2 H1 locs ls (jm_H_push h1 hM e1 z1 (fun q hq => o1 q hq) (by rw [jm_E_obj hk g2]; exact ⟨_, jm_tab_get g2, hob⟩)) (jm_S_push h2 (by rw [z1, hz]) (fun q hq => o1 q (by omega))) h3
    dsimp only at this
    rw [List.map_cons, show jm_cv θ (.ref M.1) = .ref (θ.1 + M.1) by show Value.ref (jm_ad θ M.1) = _; rw [jm_ad_lt (by omega)]] at this
    refine jm_W_cells (a := (jm_grow M).1 - n0) (b := jm_sl (jm_grow M).1 - jm_sl n0) ?_ ?_ this
    · show M.1 - n0 + 1 = M.1 + 1 - n0; omega
    · show jm_sl M.1 - jm_sl n0 + (jm_tab ci).2.2 = jm_sl (M.1 + 1) - jm_sl n0; rw [jm_sl_step, hln]; have := jm_sl_mono hn; omega
  · cases hx
theorem jm_s_newarr (C : jm_X θ μ p s m args meth c) (hR : R = jm_rm d M0 ME) (hn0 : n0 = M0.1) (hQ : Q = MQ below (jm_Qc θ rE ME) args s (ME.1 - n0) (jm_sl ME.1 - jm_sl n0) (jm_F θ)) (hn : n0 ≤ M.1) {k : Nat} {ty : FieldType} {at_ : ArrayType} (hty : newarray.typeOf at_ = ty) (hk8 : (k = 8 ∧ ty = .int) ∨ (k = 9 ∧ ty = .boolean)) (hd : decode μ.2.1 pc = .ok (.newarray at_, 2)) (hx : jm_newa k (pc + 2) L S M = some nx) (ok : jm_Ok p l e R s m args below meth c Q θ μ n0 d ME rE nx) : jm_V p l e R s m args below meth c Q θ μ n0 (pc, L, S, M) := by
  unfold jm_newa at hx
  split at hx
  · rename_i nn S1
    obtain ⟨hi, hx⟩ := jm_if_inv hx
    cases hx
    simp only [Bool.and_eq_true, decide_eq_true_eq] at hi
    obtain ⟨hk, hnn⟩ := hi
    subst hnn
    intro H locs ls h1 h2 h3
    have hM : M.1 < 230 := jm_kd_lt (by omega)
    have hz := h1.2.1 hM
    dsimp only at hz
    have hle := jm_ln_le M.1
    have hrm := jm_room1 hR hn0 hQ hn ok.1
    have hts := C.2.2.2.2.2.2.1
    have harr : (Cond.arrayClass (newarray.typeOf at_)).before args s = true := by
      rw [hty]
      rcases hk8 with ⟨-, rfl⟩ | ⟨-, rfl⟩
      · exact hts _ (List.mem_cons_of_mem _ jm_wint)
      · exact hts _ (List.mem_cons_of_mem _ jm_wboo)
    have hbytes : jm_ln M.1 * componentBytes (newarray.typeOf at_) ≤ 536870912 := by
      rw [hty]
      rcases hk8 with ⟨-, rfl⟩ | ⟨-, rfl⟩
      · show jm_ln M.1 * 4 ≤ _; omega
      · show jm_ln M.1 * 1 ≤ _; omega
    refine va_newaK C.1 C.2.1 harr rfl hd rfl (nI_pos (by omega)) (nI_clamp (by omega)) hbytes hrm.1 hrm.2 hz fun H1 cA e1 z1 o1 hAr hNm => ?_
    rw [hty] at e1 hNm
    have hat : va_at θ.2.1 vwCl (θ.1 + M.1, jm_E θ (jm_grow M) M.1) H1 := by
      rcases hk8 with ⟨hk8, rfl⟩ | ⟨hk8, rfl⟩
      · rw [jm_E_int (by omega)]
        have hc : cA = θ.2.2.1.1 := Option.some.inj (hNm.symm.trans (C.2.2.2.2.2.2.2.1.1.2 0 _ rfl).2)
        show H1[θ.1 + M.1]? = some (vp_cell _ _)
        rw [vp_cell_i, e1, hc]
        congr 2
        funext j
        show Value.int 0 = .int (if M.1 = M.1 then 0 else _)
        rw [if_pos rfl]
      · rw [jm_E_boo (by omega)]
        have hc : cA = θ.2.2.1.2.1 := Option.some.inj (hNm.symm.trans (C.2.2.2.2.2.2.2.1.1.2 1 _ rfl).2)
        show H1[θ.1 + M.1]? = some (vp_cell _ _)
        rw [vp_cell_i, e1, hc]
        congr 2
        funext j
        show Value.int 0 = .int (if M.1 = M.1 then 0 else _)
        rw [if_pos rfl]
    have := ok.2 H1 locs ls (jm_H_push h1 hM e1 z1 (fun q hq => o1 q hq) hat) (jm_S_push h2 (by rw [z1, hz]) (fun q hq => o1 q (by omega))) h3
    dsimp only at this
    rw [List.map_cons, show jm_cv θ (.ref M.1) = .ref (θ.1 + M.1) by show Value.ref (jm_ad θ M.1) = _; rw [jm_ad_lt (by omega)]] at this
    refine jm_W_cells (a := (jm_grow M).1 - n0) (b := jm_sl (jm_grow M).1 - jm_sl n0) ?_ ?_ this
    · show M.1 - n0 + 1 = M.1 + 1 - n0; omega
    · show jm_sl M.1 - jm_sl n0 + jm_ln M.1 = jm_sl (M.1 + 1) - jm_sl n0; rw [jm_sl_step]; have := jm_sl_mono hn; omega
  · cases hx
theorem jm_s_newq (C : jm_X θ μ p s m args meth c) (hR : R = jm_rm d M0 ME) (hn0 : n0 = M0.1) (hQ : Q = MQ below (jm_Qc θ rE ME) args s (ME.1 - n0) (jm_sl ME.1 - jm_sl n0) (jm_F θ)) (hn : n0 ≤ M.1) {k : Nat} (hd : decode μ.2.1 pc = .ok (.anewarray k, 3)) (hx : jm_newq μ k (pc + 3) L S M = some nx) (ok : jm_Ok p l e R s m args below meth c Q θ μ n0 d ME rE nx) : jm_V p l e R s m args below meth c Q θ μ n0 (pc, L, S, M) := by
  unfold jm_newq at hx
  split at hx
  · rename_i ci nn S1 hv
    obtain ⟨hi, hx⟩ := jm_if_inv hx
    cases hx
    simp only [Bool.and_eq_true, decide_eq_true_eq] at hi
    obtain ⟨⟨hci, hk⟩, hnn⟩ := hi
    subst hnn
    subst hci
    have hm := jm_look_mem hv
    obtain ⟨g1, g2⟩ := jm_goodN0 _ hm
    have w1 := jm_goodN1a hm
    obtain ⟨g5, g6⟩ := jm_hd rfl g1
    dsimp only at g1 g2 g5 g6 w1
    rw [← g5, ← g6] at w1
    intro H locs ls h1 h2 h3
    have hM : M.1 < 230 := jm_kd_lt (by omega)
    have hz := h1.2.1 hM
    dsimp only at hz
    have hle := jm_ln_le M.1
    have hrm := jm_room1 hR hn0 hQ hn ok.1
    have hts := C.2.2.2.2.2.2.1
    have hcl : (nI (jm_ln M.1)).toNatClampNeg = jm_ln M.1 := nI_clamp (by omega)
    refine W.anew (n := nI (jm_ln M.1)) C.1 C.2.1 C.2.2.2.2.2.1 (hts _ (List.mem_cons_of_mem _ w1)) (va_AO.use C.2.2.2.2.2.2.2.1.2.2.2.1) rfl hd rfl (nI_pos (by omega)) (by rw [hcl]; omega) hrm.1 (by rw [hcl]; exact hrm.2) fun cA kA comp f1 f2 f3 f4 => ?_
    rw [hcl]
    generalize hH1 : H.push ({ cls := cA, slots := Array.replicate (jm_ln M.1) .null, vm := .none } : Cell) = H1
    have z1 : H1.size = H.size + 1 := by rw [← hH1, Array.size_push]
    have e1 : H1[H.size]? = some (arrV cA (jm_ln M.1) (fun _ => .null)) := by rw [← hH1, Array.getElem?_push_size, ← arrV_new]
    have o1 : ∀ q : Nat, q < H.size → H1[q]? = H[q]? := fun q hq => by rw [← hH1, Array.getElem?_push, if_neg (Nat.ne_of_lt hq)]
    have hat : va_at θ.2.1 vwCl (θ.1 + M.1, jm_E θ (jm_grow M) M.1) H1 := by
      rw [jm_E_isl hk]
      obtain ⟨kA2, comp2, q1, q2, q3, q4⟩ := (C.2.2.2.2.2.2.2.1.1.2 2 _ rfl).2
      have hc : cA = θ.2.2.1.2.2.1 := Option.some.inj (f1.symm.trans q4)
      show H1[θ.1 + M.1]? = some (vp_cell _ _)
      rw [vp_cell_q, ← hz, e1, hc]
      congr 2
      funext j
      show Value.null = va_rf (jm_rq θ (if M.1 = M.1 then none else _))
      rw [if_pos rfl]
      rfl
    have := ok.2 H1 locs ls (jm_H_push (x := arrV cA (jm_ln M.1) (fun _ => .null)) h1 hM (by rw [← hz]; exact e1) (by rw [z1, hz]) (fun q hq => o1 q (by rw [hz]; exact hq)) hat) (jm_S_push h2 z1 o1) h3
    dsimp only at this
    rw [List.map_cons, show jm_cv θ (.ref M.1) = .ref H.size by show Value.ref (jm_ad θ M.1) = _; rw [jm_ad_lt (by omega), hz]] at this
    refine jm_W_cells (a := (jm_grow M).1 - n0) (b := jm_sl (jm_grow M).1 - jm_sl n0) ?_ ?_ this
    · show M.1 - n0 + 1 = M.1 + 1 - n0; omega
    · show jm_sl M.1 - jm_sl n0 + jm_ln M.1 = jm_sl (M.1 + 1) - jm_sl n0; rw [jm_sl_step]; have := jm_sl_mono hn; omega
  · cases hx
theorem jm_s_aastore (C : jm_X θ μ p s m args meth c) (hd : decode μ.2.1 pc = .ok (.aastore, 1)) (hx : jm_aast (pc + 1) L S M = some nx) (ok : jm_Ok p l e R s m args below meth c Q θ μ n0 d ME rE nx) : jm_V p l e R s m args below meth c Q θ μ n0 (pc, L, S, M) := by
  unfold jm_aast at hx
  split at hx
  · rename_i b i a S1
    obtain ⟨hin, hx⟩ := jm_if_inv hx
    cases hx
    simp only [Bool.and_eq_true] at hin
    obtain ⟨⟨hia, hib⟩, hin⟩ := hin
    have hin := jm_in_iff hin
    obtain ⟨ha, hk⟩ := jm_is_iff hia
    obtain ⟨hb, hkb⟩ := jm_is_iff hib
    intro H locs ls h1 h2 h3
    have ha5 := jm_lt5 (a := a) (by omega)
    have hb5 := jm_lt5 (a := b) (by omega)
    have hP := h1.2.2.2
    have hD := jm_W_D (θ := θ) (M := M)
    dsimp only at hP
    have hK := C.2.2.2.2.2.2.2.1.1
    show W p l e R s m args below meth c H locs (M.1 - n0) (jm_sl M.1 - jm_sl n0) Q (F0 m pc ls (.ref (jm_ad θ b) :: .int i :: .ref (jm_ad θ a) :: S1.map (jm_cv θ)))
    rw [jm_ad_lt ha5, jm_ad_lt hb5]
    have hlt : i.toNatClampNeg < jm_ln a := Nat.not_le.mp fun q => hin (Or.inr q)
    have h0 : ¬ i < 0 := fun q => hin (Or.inl q)
    have hwa : (jm_W θ M)[a]? = some (θ.1 + a, .inl (θ.2.2.1.2.2.1, jm_ln a, .inr (.inr (.inr (.inr (fun j => jm_rq θ (M.2.2 a j))))))) := by rw [jm_W_get ha, jm_E_isl hk]
    obtain ⟨r', hr', cellV, g1, g2, g3, -⟩ := hP b _ (by rw [jm_W_get hb, jm_E_obj hkb (by decide)])
    have hcls := (hK.1 2 _ (jm_tab_get (by decide))).2
    obtain ⟨kA, comp, k1, k2, k3, -⟩ := (hK.2 2 _ rfl).2
    have hcomp : comp = θ.2.1.1 2 := Option.some.inj (k3.symm.trans hcls.1)
    subst hcomp
    obtain ⟨kC, hkC, -⟩ := hcls.2
    refine W.aast C.1 C.2.1 (hP a _ hwa) (fun q h => by cases h) (fun h => by cases h) k1 k2 rfl hkC ⟨h0, by show _ < (arrV _ _ _).slots.size; rw [arrV_size]; exact hlt⟩ g1 (fun q h => by rw [g3] at h; cases h) (by rw [g2]; exact hkC) (by rw [g2]; exact va_assign hcls) rfl rfl hd fun H1 e z oq => ?_
    refine ok.2 H1 _ ls (jm_H_of h1 z rfl ?_) (h2.put z oq (hD.2 a _ hwa)) h3
    rw [← jm_W_set (M := M) (M' := (M.1, M.2.1, jm_upR M.2.2 a i.toNatClampNeg (some b))) (e := .inl (θ.2.2.1.2.2.1, jm_ln a, .inr (.inr (.inr (.inr (va_up (fun j => jm_rq θ (M.2.2 a j)) i.toNatClampNeg (some (θ.1 + b)))))))) ha rfl (by
      rw [jm_E_isl hk]
      congr 7
      funext j
      unfold jm_upR va_up
      by_cases q : j = i.toNatClampNeg
      · simp [q, jm_rq, jm_ad_lt hb5]
      · simp [q]) (fun q hq => jm_E_congr rfl (jm_upR_ne hq))]
    refine hP.set hD hwa ?_ oq
    show H1[θ.1 + a]? = some (vp_cell _ _)
    rw [e]
    rw [vp_cell_q, vp_cell_q, arrV_store]
    congr 2
    funext q
    by_cases hq : q = i.toNatClampNeg
    · subst hq
      simp [updV, va_up, va_rf]
    · simp [updV, va_up, hq]
  · cases hx
end JS
