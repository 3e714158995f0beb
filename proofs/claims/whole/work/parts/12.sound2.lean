set_option maxRecDepth 100000 in
theorem jm_ln_tab' : ∀ a, a < 230 → jm_kd a < 8 → jm_ln a = (jm_tab (jm_kd a)).2.2 := by decide +kernel
theorem jm_ln_tab {a : Nat} (h : jm_kd a < 8) : jm_ln a = (jm_tab (jm_kd a)).2.2 := jm_ln_tab' a (jm_kd_lt (by omega)) h
set_option maxRecDepth 100000 in
theorem jm_ln_le' : ∀ a, a < 230 → jm_ln a ≤ 1056 := by decide +kernel
theorem jm_ln_le (a : Nat) : jm_ln a ≤ 1056 := by
  rcases Nat.lt_or_ge a 230 with q | q
  · exact jm_ln_le' a q
  · unfold jm_ln
    have hl : jm_lnL.length = 230 := by decide +kernel
    rw [List.getD_eq_getElem?_getD, List.getElem?_eq_none (by omega)]
    decide
set_option maxRecDepth 100000 in
theorem jm_goodF3 : ∀ e ∈ jm_fldT, jm_rf e.2.1 e.2.2 = false → parseFieldDescriptor ((jm_tab e.2.1).2.1 e.2.2).2.2.1 = some (if e.2.1 = 7 ∧ e.2.2 = 4 then .boolean else .int) ∧ ((jm_tab e.2.1).2.1 e.2.2).2.2.2 = false := by decide +kernel
def jm_isref (t : Option FieldType) : Bool := match t with
  | some (.object _) => true
  | some (.array _) => true
  | _ => false
set_option maxRecDepth 100000 in
theorem jm_goodF4 : ∀ e ∈ jm_fldT, jm_rf e.2.1 e.2.2 = true → jm_isref (parseFieldDescriptor ((jm_tab e.2.1).2.1 e.2.2).2.2.1) = true ∧ ((jm_tab e.2.1).2.1 e.2.2).2.2.2 = true ∧ ((jm_tab e.2.1).2.1 e.2.2).1 = jm_own e.2.1 := by decide +kernel
def jm_tyk (c k : Nat) : FieldType := match c with
  | 0 => tyX0 k
  | 1 => tyX1 k
  | 2 => tyX2 k
  | 3 => tyX3 k
  | 4 => tyX4 k
  | 5 => tyX5 k
  | 6 => tyX6 k
  | _ => tyX7 k
theorem jm_tyk_ok {c : Nat} (h : c < 8) : ∀ k, k < (jm_tab c).2.2 → parseFieldDescriptor ((jm_tab c).2.1 k).2.2.1 = some (jm_tyk c k) := by
  match c, h with
  | 0, _ => exact tyX0_ok
  | 1, _ => exact tyX1_ok
  | 2, _ => exact tyX2_ok
  | 3, _ => exact tyX3_ok
  | 4, _ => exact tyX4_ok
  | 5, _ => exact tyX5_ok
  | 6, _ => exact tyX6_ok
  | 7, _ => exact tyX7_ok
theorem jm_nm_ok {c : Nat} (h : c < 8) : ∀ a, a < (jm_tab c).2.2 → ∀ b, b < (jm_tab c).2.2 → a ≠ b → ((jm_tab c).2.1 a).2.1 ≠ ((jm_tab c).2.1 b).2.1 := by
  match c, h with
  | 0, _ => exact nmX0
  | 1, _ => exact nmX1
  | 2, _ => exact nmX2
  | 3, _ => exact nmX3
  | 4, _ => exact nmX4
  | 5, _ => exact nmX5
  | 6, _ => exact nmX6
  | 7, _ => exact nmX7
theorem jm_lt5 {a : Nat} (h : jm_kd a < 99) : a < 5000 := by have := jm_kd_lt h; omega
theorem jm_ad_st {θ : jm_T} {a : Nat} (h1 : 5000 ≤ a) : jm_ad θ a = θ.2.2.2 (a - 5000) := if_neg (by omega)
theorem jm_st3 {a : Nat} (h1 : 5000 ≤ a) (h2 : a < 5003) : a - 5000 < 3 := by omega
theorem jm_E_obj {θ : jm_T} {M : jm_M} {a ci : Nat} (h : jm_kd a = ci) (hc : ci < 8) : jm_E θ M a = .inr (ci, (List.range (jm_ln a)).map (jm_fv θ M ci a)) := by
  unfold jm_E
  rw [if_pos (by omega), h]
theorem jm_E_int {θ : jm_T} {M : jm_M} {a : Nat} (h : jm_kd a = 8) : jm_E θ M a = .inl (θ.2.2.1.1, jm_ln a, .inl (M.2.1 a)) := by
  unfold jm_E
  rw [if_neg (by omega), if_pos h]
theorem jm_E_boo {θ : jm_T} {M : jm_M} {a : Nat} (h : jm_kd a = 9) : jm_E θ M a = .inl (θ.2.2.1.2.1, jm_ln a, .inl (M.2.1 a)) := by
  unfold jm_E
  rw [if_neg (by omega), if_neg (by omega), if_pos h]
theorem jm_E_isl {θ : jm_T} {M : jm_M} {a : Nat} (h : jm_kd a = 10) : jm_E θ M a = .inl (θ.2.2.1.2.2.1, jm_ln a, .inr (.inr (.inr (.inr (fun j => jm_rq θ (M.2.2 a j)))))) := by
  unfold jm_E
  rw [if_neg (by omega), if_neg (by omega), if_neg (by omega), if_pos h]
theorem jm_E_grd {θ : jm_T} {M : jm_M} {a : Nat} (h : jm_kd a = 11) : jm_E θ M a = .inl (θ.2.2.1.2.2.2, jm_ln a, .inr (.inr (.inr (.inr (fun j => jm_rq θ (M.2.2 a j)))))) := by
  unfold jm_E
  rw [if_neg (by omega), if_neg (by omega), if_neg (by omega), if_neg (by omega)]
theorem jm_E_congr {θ : jm_T} {M M' : jm_M} {b : Nat} (h1 : M'.2.1 b = M.2.1 b) (h2 : M'.2.2 b = M.2.2 b) : jm_E θ M' b = jm_E θ M b := by
  have e : jm_fv θ M' (jm_kd b) b = jm_fv θ M (jm_kd b) b := by
    funext j
    unfold jm_fv
    rw [h1, h2]
  unfold jm_E
  rw [h1, h2, e]
theorem jm_up_ne {f : Nat → Nat → Int32} {a j : Nat} {v : Int32} {b : Nat} (h : b ≠ a) : jm_up f a j v b = f b := by
  funext k
  unfold jm_up
  rw [if_neg (fun q => h q.1)]
theorem jm_up_eq {f : Nat → Nat → Int32} {a j : Nat} {v : Int32} : jm_up f a j v a = upd (f a) j v := by
  funext k
  unfold jm_up upd
  by_cases q : k = j
  · simp [q]
  · simp [q]
theorem jm_upR_ne {f : Nat → Nat → Option Nat} {a j : Nat} {v : Option Nat} {b : Nat} (h : b ≠ a) : jm_upR f a j v b = f b := by
  funext k
  unfold jm_upR
  rw [if_neg (fun q => h q.1)]
theorem jm_fs_set {n k : Nat} {f g : Nat → Value} {v : Value} (hk : k < n) (h1 : g k = v) (h2 : ∀ j, j ≠ k → g j = f j) : ((List.range n).map f).set k v = (List.range n).map g := by
  apply List.ext_getElem?
  intro i
  rw [List.getElem?_set]
  by_cases q : k = i
  · subst q
    rw [if_pos rfl, if_pos (by simpa using hk), List.getElem?_map, List.getElem?_range hk]
    simp [h1]
  · rw [if_neg q, List.getElem?_map, List.getElem?_map]
    cases hx : (List.range n)[i]? with
    | none => rfl
    | some j =>
      have : j = i := by
        rcases Nat.lt_or_ge i n with z | z
        · rw [List.getElem?_range z] at hx; cases hx; rfl
        · rw [List.getElem?_eq_none (by simpa using z)] at hx; cases hx
      subst this
      simp [h2 j (fun z => q z.symm)]
theorem jm_fs_get {n k : Nat} {f : Nat → Value} (hk : k < n) : ((List.range n).map f)[k]? = some (f k) := by
  rw [List.getElem?_map, List.getElem?_range hk]
  rfl
theorem jm_fv_cv {θ : jm_T} {M : jm_M} {ci a k : Nat} : jm_cv θ (jm_fval M ci a k) = jm_fv θ M ci a k := by
  unfold jm_fv jm_fval
  cases jm_rf ci k
  · rfl
  · exact jm_rv_cv θ _
theorem jm_in_iff {i : Int32} {n : Nat} (h : jm_in i n = true) : vp_in i n := (of_decide_eq_true h : ¬ (i < 0 ∨ n ≤ i.toNatClampNeg))
theorem jm_sl_step (n : Nat) : jm_sl (n + 1) = jm_sl n + jm_ln n := by
  unfold jm_sl jm_ln
  rcases Nat.lt_or_ge n jm_lnL.length with q | q
  · rw [List.take_succ, List.getElem?_eq_getElem q, List.sum_append, List.getD_eq_getElem?_getD, List.getElem?_eq_getElem q]
    simp
  · rw [List.take_of_length_le (by omega), List.take_of_length_le q, List.getD_eq_getElem?_getD, List.getElem?_eq_none q]
    simp
theorem jm_sl_mono {a b : Nat} (h : a ≤ b) : jm_sl a ≤ jm_sl b := by
  induction b with
  | zero => have : a = 0 := by omega
            subst this; exact Nat.le_refl _
  | succ b ih =>
    by_cases q : a ≤ b
    · have := ih q
      rw [jm_sl_step]; omega
    · have : a = b + 1 := by omega
      subst this; exact Nat.le_refl _
section JS
variable {p : Program} {l : Launch} {e : Env} {R : Room} {s : State} {m : MethodId} {args : Array Value} {below : List Frame} {meth : Method} {c : Code} {Q : State → Prop} {θ : jm_T} {μ : jm_Md} {n0 pc n d : Nat} {L S : List Value} {M M0 ME : jm_M} {rE : Option Value} {nx : jm_N} {H : Heap} {locs : List Loc} {cells slots : Nat}
theorem jm_s_getfield (C : jm_X θ μ p s m args meth c) {k : Nat} (hd : decode μ.2.1 pc = .ok (.getfield k, 3)) (hx : jm_getf μ k (pc + 3) L S M = some nx) (ok : jm_Ok p l e R s m args below meth c Q θ μ n0 d ME rE nx) : jm_V p l e R s m args below meth c Q θ μ n0 (pc, L, S, M) := by
  unfold jm_getf at hx
  split at hx
  · rename_i ci kk a S1 hv
    obtain ⟨hi, hx⟩ := jm_if_inv hx
    cases hx
    obtain ⟨ha, hk⟩ := jm_is_iff hi
    obtain ⟨g1, g2, g3, g4⟩ := jm_goodF (jm_look_mem hv)
    obtain ⟨g5, g6⟩ := jm_hd rfl g1
    unfold jm_fw at g4
    dsimp only at g1 g2 g3 g4 g5 g6
    rw [← g5, ← g6] at g4
    intro H locs ls h1 h2 h3
    have ha5 := jm_lt5 (a := a) (by omega)
    have kk2 := ok.2 H locs ls h1 h2 h3
    dsimp only at kk2
    rw [List.map_cons, jm_fv_cv] at kk2
    show W p l e R s m args below meth c H locs (M.1 - n0) (jm_sl M.1 - jm_sl n0) Q (F0 m pc ls (.ref (jm_ad θ a) :: S1.map (jm_cv θ)))
    rw [jm_ad_lt ha5]
    have hln := jm_ln_tab (a := a) (by omega)
    rw [hk] at hln
    exact va_get (D := θ.2.1) (ci := ci) (C := (jm_tab ci).1) (T := (jm_tab ci).2.1) (N := (jm_tab ci).2.2) (v := jm_fv θ M ci a kk) C.1 C.2.1 C.2.2.2.2.2.2.1 (fun w hw => List.mem_cons_of_mem _ (jm_G_u _ (List.mem_of_getElem? (jm_tab_get g2)) w hw)) C.2.2.2.2.2.1 C.2.2.2.2.2.2.2.1.1 h1.2.2.2 a (by rw [jm_W_get ha, jm_E_obj hk g2]) (jm_tab_get g2) kk g3 (C.2.2.2.2.2.2.1 _ (List.mem_cons_of_mem _ g4)) (fun _ h => h) (jm_fs_get (by omega)) hd kk2
  · cases hx
theorem jm_put {cc : ByteArray} {ls : Array Slot} {rest : List Value} {D : va_G} {cl : List vw_C} {A : Nat → Prop} {a : Nat} {tys : List (ClassId × FieldType)} {ws : va_W} {H0 : Heap} (hexec : p.tables.exec = Jvm.exec) (hb : c.code = cc) {own C : String} {T : u_T} {N ci index : Nat} {Ts : List Cond} (hts : ∀ w ∈ Ts, w.before args s = true) (hin : ∀ w ∈ u_ws C T N, w ∈ Ts) (ty0 : Nat → FieldType) (hty : ∀ k, k < N → parseFieldDescriptor (T k).2.2.1 = some (ty0 k)) (hnm : ∀ a, a < N → ∀ b, b < N → a ≠ b → (T a).2.1 ≠ (T b).2.1) (hown : s.vm.findClass own = some m.cls) (hK : va_K D cl tys s) (hP : va_P D cl ws H) (hD : va_D A ws) (hS0 : va_S A H0 H locs) (q0 : Nat) {fs : List Value} (he : ws[q0]? = some (a, .inr (ci, fs))) (hc : cl[ci]? = some (C, T, N)) (k : Nat) (hk : k < N) (hlink : (Cond.fieldLink own index (T k).1 (T k).2.1 (T k).2.2.1).before args s = true) (hfin : (T k).2.2.2 = false ∨ ((T k).2.2.2 = true ∧ meth.name = "<init>" ∧ (T k).1 = own)) {ty : FieldType} {v : Value} (hd : parseFieldDescriptor (T k).2.2.1 = some ty) (hn : narrow ty v = v) (hfit : fits ty v = true) (hl : k < fs.length)
    (hdg : decode cc pc = .ok (.putfield index, 3)) (kk : ∀ (H1 : Heap) (locs1 : List Loc), H1.size = H.size → va_P D cl (ws.set q0 (a, .inr (ci, fs.set k v))) H1 → va_S A H0 H1 locs1 → W p l e R s m args below meth c H1 locs1 cells slots Q (F0 m (pc + 3) ls rest)) : W p l e R s m args below meth c H locs cells slots Q (F0 m pc ls (v :: .ref a :: rest)) := by
  have hap := va_apart (own := own) hts hin ty0 hty hnm hK hc
  obtain ⟨r, h1, cell, q1, q2, q3, q4⟩ := hP q0 _ he
  have hr : r = (C, T, N) := Option.some.inj (h1.symm.trans hc)
  subst hr
  obtain ⟨hS, hfc, kC, hkC, hkind⟩ := hK.1 ci _ hc
  obtain ⟨cf, kf, fi, f, hi, hsl⟩ := hS k hk
  have hlay := hts _ (hin _ (u_in_lay hk))
  unfold u_lay at hlay
  have hst := (u_facts hfc hkC (u_lays hts hin hk) hi).1
  rcases hfin with hfin | ⟨hfin, hin2, hdecl⟩
  · rw [if_neg (by rw [hfin]; decide)] at hlay
    have h6 := u_store hfc hkC hkind hlay hi hd hn hfit
    refine W.putK hexec hb (f := f) ⟨hown, hlink, ⟨_, _, _, hi⟩, hst⟩ (by rw [q2]; exact h6) q1 q3 (by rw [hsl]; exact k2_hasslot (q4 k hk)) rfl rfl hdg fun H' e1 e2 e3 => ?_
    rw [hsl] at e1 ⊢
    exact kk H' _ e2 (hP.set hD he ⟨_, hc, t_OB.to (V := updV (vp_V fs) k v) ⟨_, e1, q2, q3, t_set q4 hap hk v⟩ (fun j _ => vp_updV_set hl v j)⟩ e3) (hS0.put e2 e3 (hD.2 q0 _ he))
  · rw [if_pos hfin] at hlay
    have hcf : m.cls = cf := by
      obtain ⟨_, _, c', _, _, _, -, -, hf', -, -, -, hown2, -⟩ := Cond.laysFinal_spec hlay
      have e1 : c' = cf := by have := hi.symm.trans hf'; simp at this; exact this.1.symm
      rw [hdecl] at hown2
      rw [← e1]; exact Option.some.inj (hown.symm.trans hown2)
    have h6 := u_fits hfc hkC hkind (Or.inr hlay) hi hd hn hfit
    refine W.putFinK hexec hb hown hlink hi hst hcf hin2 (by rw [q2]; exact h6) q1 q3 (by rw [hsl]; exact k2_hasslot (q4 k hk)) rfl rfl hdg fun H' e1 e2 e3 => ?_
    rw [hsl] at e1 ⊢
    exact kk H' _ e2 (hP.set hD he ⟨_, hc, t_OB.to (V := updV (vp_V fs) k v) ⟨_, e1, q2, q3, t_set q4 hap hk v⟩ (fun j _ => vp_updV_set hl v j)⟩ e3) (hS0.put e2 e3 (hD.2 q0 _ he))
theorem jm_ist {cc : ByteArray} {ls : Array Slot} {rest : List Value} {D : va_G} {cl : List vw_C} {A : Nat → Prop} {a : Nat} {tys : List (ClassId × FieldType)} {ws : va_W} {H0 : Heap} (hexec : p.tables.exec = Jvm.exec) (hb : c.code = cc) (hK : va_K D cl tys s) (hP : va_P D cl ws H) (hD : va_D A ws) (hS : va_S A H0 H locs) (q0 t0 : Nat) {cA : ClassId} {n : Nat} {f : Nat → Int32} (ha : ws[q0]? = some (a, .inl (cA, n, .inl f))) (ht : tys[t0]? = some (cA, .int)) {i : Int32} {x : Int32} (hin : vp_in i n) (hdg : decode cc pc = .ok (.iastore, 1))
    (kk : ∀ (H1 : Heap) (locs1 : List Loc), H1.size = H.size → va_P D cl (ws.set q0 (a, .inl (cA, n, .inl (upd f i.toNatClampNeg x)))) H1 → va_S A H0 H1 locs1 → W p l e R s m args below meth c H1 locs1 cells slots Q (F0 m (pc + 1) ls rest)) : W p l e R s m args below meth c H locs cells slots Q (F0 m pc ls (.int x :: .int i :: .ref a :: rest)) := by
  refine W.iast hexec hb (hP q0 _ ha) ((hK.2 t0 _ ht).1 n (fun j => .int (f j))) (fun q => by cases q) (by show ¬ (i < 0 ∨ (arrV _ _ _).slots.size ≤ _); rw [arrV_size]; exact hin) rfl rfl hdg fun H1 e z oq => ?_
  refine kk H1 _ z (hP.set hD ha ?_ oq) (hS.put z oq (hD.2 q0 _ ha))
  show H1[a]? = some (vp_cell _ _)
  rw [e]
  rw [vp_cell_i, vp_cell_i, arrV_store]
  congr 2
  funext q
  by_cases hq : q = i.toNatClampNeg
  · subst hq
    simp [updV, upd]
  · simp [updV, upd, hq]
theorem jm_H_of {θ : jm_T} {M M' : jm_M} {H H1 : Heap} (h : jm_H θ M H) (hz : H1.size = H.size) (hn : M'.1 = M.1) (hP : va_P θ.2.1 vwCl (jm_W θ M') H1) : jm_H θ M' H1 := ⟨by rw [hz]; exact h.1, fun q => by rw [hz, hn]; exact h.2.1 (by rw [← hn]; exact q), by rw [hn]; exact h.2.2.1, hP⟩
theorem jm_s_putfield (C : jm_X θ μ p s m args meth c) {k : Nat} (hd : decode μ.2.1 pc = .ok (.putfield k, 3)) (hx : jm_putf μ k (pc + 3) L S M = some nx) (ok : jm_Ok p l e R s m args below meth c Q θ μ n0 d ME rE nx) : jm_V p l e R s m args below meth c Q θ μ n0 (pc, L, S, M) := by
  unfold jm_putf at hx
  split at hx
  · rename_i ci kk v a S1 hv
    obtain ⟨hi, hx⟩ := jm_if_inv hx
    cases hx
    simp only [Bool.and_eq_true, Bool.not_eq_true'] at hi
    obtain ⟨⟨hi, hrf⟩, hbo⟩ := hi
    obtain ⟨ha, hk⟩ := jm_is_iff hi
    obtain ⟨g1, g2, g3, g4⟩ := jm_goodF (jm_look_mem hv)
    obtain ⟨g7, g8⟩ := jm_goodF3 _ (jm_look_mem hv) hrf
    obtain ⟨g5, g6⟩ := jm_hd rfl g1
    unfold jm_fw at g4
    dsimp only at g1 g2 g3 g4 g5 g6 g7 g8
    rw [← g5, ← g6] at g4
    intro H locs ls h1 h2 h3
    have ha5 := jm_lt5 (a := a) (by omega)
    have hln := jm_ln_tab (a := a) (by omega)
    rw [hk] at hln
    show W p l e R s m args below meth c H locs (M.1 - n0) (jm_sl M.1 - jm_sl n0) Q (F0 m pc ls (.int v :: .ref (jm_ad θ a) :: S1.map (jm_cv θ)))
    rw [jm_ad_lt ha5]
    have hnf : narrow (if ci = 7 ∧ kk = 4 then FieldType.boolean else .int) (.int v) = .int v ∧ fits (if ci = 7 ∧ kk = 4 then FieldType.boolean else .int) (.int v) = true := by
      by_cases z : ci = 7 ∧ kk = 4
      · rw [if_pos z]
        obtain ⟨rfl, rfl⟩ := z
        simp at hbo
        rcases hbo with rfl | rfl <;> exact ⟨rfl, rfl⟩
      · rw [if_neg z]
        exact ⟨rfl, rfl⟩
    refine jm_put (D := θ.2.1) (ci := ci) (C := (jm_tab ci).1) (T := (jm_tab ci).2.1) (N := (jm_tab ci).2.2) (v := .int v) C.1 C.2.1 C.2.2.2.2.2.2.1 (fun w hw => List.mem_cons_of_mem _ (jm_G_u _ (List.mem_of_getElem? (jm_tab_get g2)) w hw)) (jm_tyk ci) (jm_tyk_ok g2) (jm_nm_ok g2) C.2.2.2.2.2.1 C.2.2.2.2.2.2.2.1.1 h1.2.2.2 jm_W_D h2 a (by rw [jm_W_get ha, jm_E_obj hk g2]) (jm_tab_get g2) kk g3 (C.2.2.2.2.2.2.1 _ (List.mem_cons_of_mem _ g4)) (Or.inl g8) g7 hnf.1 hnf.2 (by simpa [hln] using g3) hd (fun H1 locs1 hz hP hS => ?_)
    refine ok.2 H1 locs1 ls (jm_H_of h1 hz rfl ?_) hS h3
    rw [jm_W_set (M' := (M.1, jm_up M.2.1 a kk v, M.2.2)) ha rfl _ (fun b hb => jm_E_congr (jm_up_ne hb) rfl)] at hP
    · exact hP
    · rw [jm_E_obj hk g2]
      rw [← jm_fs_set (n := jm_ln a) (k := kk) (v := .int v) (f := jm_fv θ M ci a) (g := jm_fv θ (M.1, jm_up M.2.1 a kk v, M.2.2) ci a) (by rw [hln]; exact g3) (by unfold jm_fv jm_up; rw [hrf]; simp) (fun j hj => by unfold jm_fv jm_up; simp [hj])]
  · rename_i ci kk b a S1 hv
    obtain ⟨hi, hx⟩ := jm_if_inv hx
    cases hx
    simp only [Bool.and_eq_true, beq_iff_eq, decide_eq_true_eq] at hi
    obtain ⟨⟨⟨hi, hrf⟩, hb⟩, hini, hco⟩ := hi
    obtain ⟨ha, hk⟩ := jm_is_iff hi
    obtain ⟨g1, g2, g3, g4⟩ := jm_goodF (jm_look_mem hv)
    obtain ⟨g7, g8, g9⟩ := jm_goodF4 _ (jm_look_mem hv) hrf
    obtain ⟨g5, g6⟩ := jm_hd rfl g1
    unfold jm_fw at g4
    dsimp only at g1 g2 g3 g4 g5 g6 g7 g8 g9
    rw [← g5, ← g6] at g4
    intro H locs ls h1 h2 h3
    have ha5 := jm_lt5 (a := a) (by omega)
    have hln := jm_ln_tab (a := a) (by omega)
    rw [hk] at hln
    show W p l e R s m args below meth c H locs (M.1 - n0) (jm_sl M.1 - jm_sl n0) Q (F0 m pc ls (.ref (jm_ad θ b) :: .ref (jm_ad θ a) :: S1.map (jm_cv θ)))
    rw [jm_ad_lt ha5]
    obtain ⟨ty, hty, hrr⟩ : ∃ ty, parseFieldDescriptor ((jm_tab ci).2.1 kk).2.2.1 = some ty ∧ (narrow ty (.ref (jm_ad θ b)) = .ref (jm_ad θ b) ∧ fits ty (.ref (jm_ad θ b)) = true) := by
      cases hp : parseFieldDescriptor ((jm_tab ci).2.1 kk).2.2.1 with
      | none => rw [hp] at g7; cases g7
      | some ty =>
        refine ⟨ty, rfl, ?_⟩
        rw [hp] at g7
        cases ty <;> first | exact ⟨rfl, rfl⟩ | cases g7
    refine jm_put (D := θ.2.1) (ci := ci) (C := (jm_tab ci).1) (T := (jm_tab ci).2.1) (N := (jm_tab ci).2.2) (v := .ref (jm_ad θ b)) C.1 C.2.1 C.2.2.2.2.2.2.1 (fun w hw => List.mem_cons_of_mem _ (jm_G_u _ (List.mem_of_getElem? (jm_tab_get g2)) w hw)) (jm_tyk ci) (jm_tyk_ok g2) (jm_nm_ok g2) C.2.2.2.2.2.1 C.2.2.2.2.2.2.2.1.1 h1.2.2.2 jm_W_D h2 a (by rw [jm_W_get ha, jm_E_obj hk g2]) (jm_tab_get g2) kk g3 (C.2.2.2.2.2.2.1 _ (List.mem_cons_of_mem _ g4)) (Or.inr ⟨g8, C.2.2.2.2.2.2.2.2.1.trans (of_decide_eq_true hini), by rw [g9, ← hco]⟩) hty hrr.1 hrr.2 (by simpa [hln] using g3) hd (fun H1 locs1 hz hP hS => ?_)
    refine ok.2 H1 locs1 ls (jm_H_of h1 hz rfl ?_) hS h3
    rw [jm_W_set (M' := (M.1, M.2.1, jm_upR M.2.2 a kk (some b))) ha rfl _ (fun b hb => jm_E_congr rfl (jm_upR_ne hb))] at hP
    · exact hP
    · rw [jm_E_obj hk g2]
      rw [← jm_fs_set (n := jm_ln a) (k := kk) (v := .ref (jm_ad θ b)) (f := jm_fv θ M ci a) (g := jm_fv θ (M.1, M.2.1, jm_upR M.2.2 a kk (some b)) ci a) (by rw [hln]; exact g3) (by unfold jm_fv jm_upR; rw [hrf]; simp [jm_rq, va_rf]) (fun j hj => by unfold jm_fv jm_upR; simp [hj])]
  · cases hx
theorem jm_s_getstatic (C : jm_X θ μ p s m args meth c) {k : Nat} (hd : decode μ.2.1 pc = .ok (.getstatic k, 3)) (hx : jm_gets μ k (pc + 3) L S M = some nx) (ok : jm_Ok p l e R s m args below meth c Q θ μ n0 d ME rE nx) : jm_V p l e R s m args below meth c Q θ μ n0 (pc, L, S, M) := by
  unfold jm_gets at hx
  split at hx
  · rename_i q hv
    cases hx
    obtain ⟨g1, g2, g3⟩ := jm_goodS (jm_look_mem hv)
    obtain ⟨g5, g6⟩ := jm_hd rfl g1
    dsimp only at g1 g2 g3 g5 g6
    rw [← g5, ← g6] at g3
    intro H locs ls h1 h2 h3
    have kk2 := ok.2 H locs ls h1 h2 h3
    refine va_gets C.1 C.2.1 (C.2.2.2.2.2.2.2.1.2.2.1 q g2).1 h2 C.2.2.2.2.2.1 (C.2.2.2.2.2.2.1 _ (List.mem_cons_of_mem _ g3)) (fun _ h => h) hd ?_
    have e1 : jm_cv θ (.ref (5000 + q)) = .ref (θ.2.2.2 q) := by
      show Value.ref (jm_ad θ (5000 + q)) = _
      unfold jm_ad
      rw [if_neg (by omega), Nat.add_sub_cancel_left]
    dsimp only at kk2
    rw [List.map_cons, e1] at kk2
    exact kk2
  · cases hx
set_option maxRecDepth 10000 in
theorem jm_s_iaload (C : jm_X θ μ p s m args meth c) (hd : decode μ.2.1 pc = .ok (.iaload, 1)) (hx : jm_iald (pc + 1) L S M = some nx) (ok : jm_Ok p l e R s m args below meth c Q θ μ n0 d ME rE nx) : jm_V p l e R s m args below meth c Q θ μ n0 (pc, L, S, M) := by
  unfold jm_iald at hx
  split at hx
  · rename_i i a S1
    cases hi : jm_is M a 8 with
    | true =>
      rw [hi] at hx
      obtain ⟨hin, hx⟩ := jm_if_inv hx
      cases hx
      obtain ⟨ha, hk⟩ := jm_is_iff hi
      intro H locs ls h1 h2 h3
      have ha5 := jm_lt5 (a := a) (by omega)
      show W p l e R s m args below meth c H locs (M.1 - n0) (jm_sl M.1 - jm_sl n0) Q (F0 m pc ls (.int i :: .ref (jm_ad θ a) :: S1.map (jm_cv θ)))
      rw [jm_ad_lt ha5]
      exact va_iald C.1 C.2.1 C.2.2.2.2.2.2.2.1.1 h1.2.2.2 a 0 (by rw [jm_W_get ha, jm_E_int hk]) rfl (jm_in_iff hin) hd (ok.2 H locs ls h1 h2 h3)
    | false =>
      rw [hi] at hx
      obtain ⟨hin, hx⟩ := jm_if_inv hx
      cases hx
      simp only [Bool.and_eq_true, decide_eq_true_eq] at hin
      obtain ⟨⟨ha1, ha2⟩, hin⟩ := hin
      intro H locs ls h1 h2 h3
      show W p l e R s m args below meth c H locs (M.1 - n0) (jm_sl M.1 - jm_sl n0) Q (F0 m pc ls (.int i :: .ref (jm_ad θ a) :: S1.map (jm_cv θ)))
      have e1 := jm_ad_st (θ := θ) ha1
      rw [e1]
      exact va_ti C.1 C.2.1 (C.2.2.2.2.2.2.2.1.2.2.1 (a - 5000) (jm_st3 ha1 ha2)).2 h2 (jm_in_iff hin) rfl hd (ok.2 H locs ls h1 h2 h3)
  · cases hx
theorem jm_s_baload (C : jm_X θ μ p s m args meth c) (hd : decode μ.2.1 pc = .ok (.baload, 1)) (hx : jm_bald (pc + 1) L S M = some nx) (ok : jm_Ok p l e R s m args below meth c Q θ μ n0 d ME rE nx) : jm_V p l e R s m args below meth c Q θ μ n0 (pc, L, S, M) := by
  unfold jm_bald at hx
  split at hx
  · rename_i i a S1
    obtain ⟨hin, hx⟩ := jm_if_inv hx
    cases hx
    simp only [Bool.and_eq_true] at hin
    obtain ⟨hi, hin⟩ := hin
    obtain ⟨ha, hk⟩ := jm_is_iff hi
    intro H locs ls h1 h2 h3
    have ha5 := jm_lt5 (a := a) (by omega)
    show W p l e R s m args below meth c H locs (M.1 - n0) (jm_sl M.1 - jm_sl n0) Q (F0 m pc ls (.int i :: .ref (jm_ad θ a) :: S1.map (jm_cv θ)))
    rw [jm_ad_lt ha5]
    exact va_zald C.1 C.2.1 C.2.2.2.2.2.2.2.1.1 h1.2.2.2 a 1 (by rw [jm_W_get ha, jm_E_boo hk]) rfl (jm_in_iff hin) hd (ok.2 H locs ls h1 h2 h3)
  · cases hx
theorem jm_s_aaload (C : jm_X θ μ p s m args meth c) (hd : decode μ.2.1 pc = .ok (.aaload, 1)) (hx : jm_aald (pc + 1) L S M = some nx) (ok : jm_Ok p l e R s m args below meth c Q θ μ n0 d ME rE nx) : jm_V p l e R s m args below meth c Q θ μ n0 (pc, L, S, M) := by
  unfold jm_aald at hx
  split at hx
  · rename_i i a S1
    obtain ⟨hin, hx⟩ := jm_if_inv hx
    cases hx
    simp only [Bool.and_eq_true, Bool.or_eq_true] at hin
    obtain ⟨hi, hin⟩ := hin
    have hin := jm_in_iff hin
    have ha : a < M.1 := by rcases hi with h | h <;> exact (jm_is_iff h).1
    have hk : jm_kd a = 10 ∨ jm_kd a = 11 := by
      rcases hi with h | h
      · exact Or.inl (jm_is_iff h).2
      · exact Or.inr (jm_is_iff h).2
    intro H locs ls h1 h2 h3
    have ha5 := jm_lt5 (a := a) (by omega)
    have kk2 := ok.2 H locs ls h1 h2 h3
    dsimp only at kk2
    rw [List.map_cons, jm_rv_cv] at kk2
    show W p l e R s m args below meth c H locs (M.1 - n0) (jm_sl M.1 - jm_sl n0) Q (F0 m pc ls (.int i :: .ref (jm_ad θ a) :: S1.map (jm_cv θ)))
    rw [jm_ad_lt ha5]
    rcases hk with hk | hk
    · exact va_aldq C.1 C.2.1 C.2.2.2.2.2.2.2.1.1 h1.2.2.2 a 2 (by rw [jm_W_get ha, jm_E_isl hk]) rfl hin hd kk2
    · have hlt : i.toNatClampNeg < jm_ln a := Nat.not_le.mp fun q => hin (Or.inr q)
      have hcell := h1.2.2.2 a _ (by rw [jm_W_get ha, jm_E_grd hk])
      exact W.aald (v := va_rf (jm_rq θ (M.2.2 a i.toNatClampNeg))) (ty := .array .int) C.1 C.2.1 hcell ((C.2.2.2.2.2.2.2.1.1.2 3 _ rfl).1 (jm_ln a) (fun j => va_rf (jm_rq θ (M.2.2 a j)))) rfl (fun q => by cases q) (by show ¬ (i < 0 ∨ (arrV _ _ _).slots.size ≤ _); rw [arrV_size]; exact hin) (by show (arrV _ _ _).slots[_]? = _; rw [arrV_read _ _ hlt]) rfl rfl hd kk2
  · cases hx
theorem jm_s_iastore (C : jm_X θ μ p s m args meth c) (hd : decode μ.2.1 pc = .ok (.iastore, 1)) (hx : jm_iast (pc + 1) L S M = some nx) (ok : jm_Ok p l e R s m args below meth c Q θ μ n0 d ME rE nx) : jm_V p l e R s m args below meth c Q θ μ n0 (pc, L, S, M) := by
  unfold jm_iast at hx
  split at hx
  · rename_i v i a S1
    obtain ⟨hin, hx⟩ := jm_if_inv hx
    cases hx
    simp only [Bool.and_eq_true] at hin
    obtain ⟨hi, hin⟩ := hin
    obtain ⟨ha, hk⟩ := jm_is_iff hi
    intro H locs ls h1 h2 h3
    have ha5 := jm_lt5 (a := a) (by omega)
    show W p l e R s m args below meth c H locs (M.1 - n0) (jm_sl M.1 - jm_sl n0) Q (F0 m pc ls (.int v :: .int i :: .ref (jm_ad θ a) :: S1.map (jm_cv θ)))
    rw [jm_ad_lt ha5]
    refine jm_ist C.1 C.2.1 C.2.2.2.2.2.2.2.1.1 h1.2.2.2 jm_W_D h2 a 0 (by rw [jm_W_get ha, jm_E_int hk]) rfl (jm_in_iff hin) hd (fun H1 locs1 hz hP hS => ?_)
    refine ok.2 H1 locs1 ls (jm_H_of h1 hz rfl ?_) hS h3
    rw [jm_W_set (M' := (M.1, jm_up M.2.1 a i.toNatClampNeg v, M.2.2)) ha rfl (by rw [jm_E_int hk]; dsimp only; rw [jm_up_eq]) (fun b hb => jm_E_congr (jm_up_ne hb) rfl)] at hP
    exact hP
  · cases hx
theorem jm_H_of' {θ : jm_T} {M M' : jm_M} {H H1 : Heap} (h : jm_H θ M H) (hs : H.size ≤ H1.size) (h230 : M.1 = 230) (hn : M'.1 = M.1) (hP : va_P θ.2.1 vwCl (jm_W θ M') H1) : jm_H θ M' H1 := ⟨Nat.le_trans h.1 hs, fun q => absurd q (by omega), by rw [hn]; exact h.2.2.1, hP⟩
theorem jm_S_rebase {A : Nat → Prop} {H0 H : Heap} {locs : List Loc} (h : va_S A H0 H locs) : va_S A H H locs := ⟨Nat.le_refl _, fun _ _ _ => rfl, h.2.2⟩
theorem jm_S_trans {A : Nat → Prop} {H0 H H1 : Heap} {locs locs1 : List Loc} (h : va_S A H0 H locs) (h1 : va_S A H H1 locs1) : va_S A H0 H1 locs1 := ⟨Nat.le_trans h.1 h1.1, fun q hq hA => (h1.2.1 q (Nat.lt_of_lt_of_le hq h.1) hA).trans (h.2.1 q hq hA), h1.2.2⟩
theorem jm_s_bastore (C : jm_X θ μ p s m args meth c) (hd : decode μ.2.1 pc = .ok (.bastore, 1)) (hx : jm_bast (pc + 1) L S M = some nx) (ok : jm_Ok p l e R s m args below meth c Q θ μ n0 d ME rE nx) : jm_V p l e R s m args below meth c Q θ μ n0 (pc, L, S, M) := by
  unfold jm_bast at hx
  split at hx
  · rename_i v i a S1
    obtain ⟨hin, hx⟩ := jm_if_inv hx
    cases hx
    simp only [Bool.and_eq_true, decide_eq_true_eq] at hin
    obtain ⟨⟨⟨h230, hi⟩, hin⟩, hv⟩ := hin
    obtain ⟨ha, hk⟩ := jm_is_iff hi
    intro H locs ls h1 h2 h3
    have ha5 := jm_lt5 (a := a) (by omega)
    show W p l e R s m args below meth c H locs (M.1 - n0) (jm_sl M.1 - jm_sl n0) Q (F0 m pc ls (.int v :: .int i :: .ref (jm_ad θ a) :: S1.map (jm_cv θ)))
    rw [jm_ad_lt ha5]
    have hnv : vp_nar .boolean v = v := by rcases hv with rfl | rfl <;> rfl
    refine va_zast C.1 C.2.1 C.2.2.2.2.2.2.2.1.1 h1.2.2.2 jm_W_D (jm_S_rebase h2) a 1 (by rw [jm_W_get ha, jm_E_boo hk]) rfl (jm_in_iff hin) hd (fun H1 locs1 hP hD hS => ?_)
    refine ok.2 H1 locs1 ls (jm_H_of' h1 hS.1 h230 rfl ?_) (jm_S_trans h2 hS) h3
    rw [hnv, jm_W_set (M' := (M.1, jm_up M.2.1 a i.toNatClampNeg v, M.2.2)) ha rfl (by rw [jm_E_boo hk]; dsimp only; rw [jm_up_eq]) (fun b hb => jm_E_congr (jm_up_ne hb) rfl)] at hP
    exact hP
  · cases hx
set_option maxRecDepth 10000 in
theorem jm_s_arraylength (C : jm_X θ μ p s m args meth c) (hd : decode μ.2.1 pc = .ok (.arraylength, 1)) (hx : jm_alen (pc + 1) L S M = some nx) (ok : jm_Ok p l e R s m args below meth c Q θ μ n0 d ME rE nx) : jm_V p l e R s m args below meth c Q θ μ n0 (pc, L, S, M) := by
  unfold jm_alen at hx
  split at hx
  · rename_i a S1
    cases hi : jm_is M a 8 with
    | true =>
      rw [hi] at hx
      cases hx
      obtain ⟨ha, hk⟩ := jm_is_iff hi
      intro H locs ls h1 h2 h3
      have ha5 := jm_lt5 (a := a) (by omega)
      show W p l e R s m args below meth c H locs (M.1 - n0) (jm_sl M.1 - jm_sl n0) Q (F0 m pc ls (.ref (jm_ad θ a) :: S1.map (jm_cv θ)))
      rw [jm_ad_lt ha5]
      exact va_alen C.1 C.2.1 C.2.2.2.2.2.2.2.1.1 h1.2.2.2 a 0 (x := (jm_ln a, .inl (M.2.1 a))) (ty := .int) (by rw [jm_W_get ha, jm_E_int hk]) rfl rfl hd (ok.2 H locs ls h1 h2 h3)
    | false =>
      rw [hi] at hx
      obtain ⟨hin, hx⟩ := jm_if_inv hx
      cases hx
      simp only [decide_eq_true_eq] at hin
      obtain ⟨ha1, ha2⟩ := hin
      intro H locs ls h1 h2 h3
      show W p l e R s m args below meth c H locs (M.1 - n0) (jm_sl M.1 - jm_sl n0) Q (F0 m pc ls (.ref (jm_ad θ a) :: S1.map (jm_cv θ)))
      have e1 := jm_ad_st (θ := θ) ha1
      rw [e1]
      obtain ⟨cell, t1, t2, t3, t4, t5, t6, t7⟩ := (C.2.2.2.2.2.2.2.1.2.2.1 (a - 5000) (jm_st3 ha1 ha2)).2
      exact W.alen (n := 6) C.1 C.2.1 (by rw [h2.2.1 _ (Array.getElem?_eq_some_iff.mp t1).1 t7]; exact t1) t2 t5 rfl rfl hd (ok.2 H locs ls h1 h2 h3)
  · cases hx
end JS
