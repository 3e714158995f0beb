/-! THE CLAIM OUT OF ONE WALK OF THE LAW'S BODY. Your part is whole_start (and what it stands on); all else here is the same for every law, but numbers. -/
def R_law : String := "SpringIsleLaw"
def lw_P (b : Addr) (xs : List Int32) (args : Array Value) (s : State) : Prop := args = #[.ref b] ∧ s.IntsAt b xs ∧ xs.length ≤ 3072 ∧ (Jvm.Cond.and given_1 narrow_1).before args s = true
def lw_Q (_ : Array Value) (s : State) (o : Outcome) (t : State) : Prop := o = .returned (some (.int 1)) ∧ Framed s o t [] 600000 7302250
def lw_Z (below : List Frame) (a : Array Value) (s : State) : State → Prop := fun t => ∃ o, t.status = .running ∧ Ended t below o ∧ lw_Q a s o t
/-- the law's own end, with 1 on the stack, nothing written that was there before, its room as the claim has it -/
theorem lw_ret {p : Program} {l : Launch} {e : Env} {s : State} {m : MethodId} {below : List Frame} {meth : Method} {c : Code} {b : Nat} (hx : p.tables.exec = Jvm.exec) (hb : c.code = code) (hr : meth.sig.returnType = ret) (hlocks : meth.locks = false) {pc : Nat} {H : Heap} {ls : Array Slot} (hdg : decode code pc = .ok (.ireturn, 1)) : W p l e room_1 s m #[Value.ref b] below meth c H [] 600000 7302250 (lw_Z below #[Value.ref b] s) (F0 m pc ls [.int 1]) := by
  intro T hT X
  obtain ⟨fs, hret, hrun, hended, hW, hframe⟩ := X.leave (v := some (.int 1)) (hlocks := hlocks) (fun h => by rw [hr] at h; cases h)
  have hmeth' : T.vm.method? m = some meth := X.method'
  refine ⟨T.setFrames fs, ?_, .returned (some (.int 1)), hrun, hended, rfl, ⟨_, rfl⟩, hW, hframe⟩
  jvm_step X.here [X.here.top, hx, hb, hdg, hmeth', hr, ret, narrow_b1]
  (try refine ⟨rfl, ?_⟩); (try refine ⟨rfl, ?_⟩)
  first | (intro acts; rw [hret _ acts rfl rfl rfl]) | rw [hret _ _ rfl rfl rfl]
  exact Steps.refl _
/-- what holds at the law's entry: the machine, the code, the tables' words (any of lw_tbl by 'hts w (by decide +kernel)'), the script of L ints xs at the cell b, what the Statement gives of the start (any of its parts by flat_of_before) -/
def lw_At (p : Program) (s : State) (m : MethodId) (meth : Method) (c : Code) (b L : Nat) (xs : Nat → Int32) : Prop :=
  p.tables.exec = Jvm.exec ∧ c.code = code ∧ meth.sig.returnType = ret ∧ c.maxLocals = 4 ∧ s.vm.findClass R_law = some m.cls ∧ (∀ w ∈ lw_tbl, w.before #[Value.ref b] s = true) ∧ va_X b L xs s s.heap ∧ b < s.heap.size ∧ meth.locks = false ∧ (Jvm.Cond.and given_1 narrow_1).before #[Value.ref b] s = true
/-! the law: its calls -/
def lw_C (θ : jm_T) (p : Program) (s : State) (m : MethodId) (c : Code) (b : Nat) : Prop := p.tables.exec = Jvm.exec ∧ c.code = code ∧ c.maxLocals = 4 ∧ s.vm.findClass (jm_own 11) = some m.cls ∧ (∀ w ∈ jm_G, w.before #[Value.ref b] s = true) ∧ jm_Q θ s s.heap ∧ θ.1 = s.heap.size
theorem lw_gi {ν : jm_Md} (h : Cond.code ν.1 ν.2.1 ν.2.2.1 ν.2.2.2.1 ∈ jm_G) : GoodIn jm_G (jm_ws ν) := by
  intro w hw
  have hm : w ∈ jm_G := by
    rcases List.mem_cons.mp hw with rfl | q
    · exact h
    · exact q
  exact ⟨hm, good_of_word (List.mem_filter.mp hm).2⟩
section LC
variable {p : Program} {l : Launch} {e : Env} {s : State} {m : MethodId} {below : List Frame} {meth : Method} {c : Code} {H : Heap} {locs : List Loc} {cells slots : Nat} {Q : State → Prop} {θ : jm_T} {b : Nat} {pc : Nat} {ls : Array Slot} {rest : List Value} {M M1 : jm_M}
theorem lw_inv (C : lw_C θ p s m c b) {k nn a : Nat} {ν : jm_Md} {As : List Value} {r : Option Value} (hin : (k, ν, nn, 0) ∈ jm_mthT) (hk : k / 1000 = 11) (ha : a < M.1) (hkd : jm_kd a = ν.2.2.2.2) (hK : jm_K 12 ν (.ref a :: As) M = some (r, M1)) (hMM : M1.1 = M.1) (hla : (jm_args (.ref a :: As)).length ≤ ν.2.2.1) (hn : As.length = nn) (hcat : (rest.map fun v => v.category).sum ≤ 8) (hd : decode code pc = .ok (.invokevirtual (k % 1000), 3)) (hls : ls.size = 4) (hcs : cells ≤ 600000 ∧ slots ≤ 7302250) (h1 : jm_H θ M H) (h2 : va_S (jm_F θ) s.heap H locs)
    (kk : ∀ (H1 : Heap) (locs1 : List Loc), jm_H θ M1 H1 → va_S (jm_F θ) s.heap H1 locs1 → W p l e room_1 s m #[Value.ref b] below meth c H1 locs1 cells slots Q (F0 m (pc + 3) ls ((r.map (jm_cv θ)).toList ++ rest))) : W p l e room_1 s m #[Value.ref b] below meth c H locs cells slots Q (F0 m pc ls ((As.map (jm_cv θ)).reverse ++ .ref (θ.1 + a) :: rest)) := by
  obtain ⟨g1, g2, g3, g4, g5, g6, g7, g8, gl, gs, gi, gsel, gn⟩ := jm_goodM _ hin
  dsimp only at g1 g2 g3 g4 g5 g6 g7 g8 gl gs gi gsel gn
  have hmet : jm_Met l θ 12 ν (.ref a :: As) M r M1 := jm_sound ⟨k, nn, 0, hin⟩ hla hK
  have g9 := gi (Or.inl rfl)
  have ha5 := jm_lt5 (a := a) (by have := g9.2.1; omega)
  have hl := gl (by decide)
  rw [hk] at hl
  have ec : (jm_tab ν.2.2.2.2).1 = ν.1.cls := g9.2.2
  have hmet' : Met l ν.1 (jm_ws ν) (jm_rm 12 M M1) (va_Pc (.ref (θ.1 + a) :: As.map (jm_cv θ)) (fun U => jm_H θ M U.heap ∧ jm_Q θ U U.heap)) (jm_Qc θ r M1) (M1.1 - M.1) (jm_sl M1.1 - jm_sl M.1) (jm_F θ) := by
    have := hmet
    unfold jm_Met jm_Pc at this
    rw [show (Value.ref a :: As).map (jm_cv θ) = .ref (θ.1 + a) :: As.map (jm_cv θ) by show Value.ref (jm_ad θ a) :: _ = _; rw [jm_ad_lt ha5]] at this
    exact this
  have hbl : FrameBlind (va_Pc (.ref (θ.1 + a) :: As.map (jm_cv θ)) (fun U => jm_H θ M U.heap ∧ jm_Q θ U U.heap)) := by
    have := jm_blind (θ := θ) (As := .ref a :: As) (M := M)
    unfold jm_Pc at this
    rw [show (Value.ref a :: As).map (jm_cv θ) = .ref (θ.1 + a) :: As.map (jm_cv θ) by show Value.ref (jm_ad θ a) :: _ = _; rw [jm_ad_lt ha5]] at this
    exact this
  refine jm_go (a := (Value.ref (θ.1 + a) :: As.map (jm_cv θ)).toArray) (mc := M1.1 - M.1) (ms := jm_sl M1.1 - jm_sl M.1) (rest := rest) (r := r) (M1 := M1) ?_ h2 (fun H1 locs1 hH hS => jm_W_cells (by omega) (by rw [hMM]; omega) (kk H1 locs1 hH hS))
  exact va_runV (As := As.map (jm_cv θ)) (b := θ.1 + a) (C := (jm_tab ν.2.2.2.2).1) (Ts := jm_G) (own := jm_own 11) (n := nn) (bytes := ν.2.1) (maxL := ν.2.2.1) (ret := ν.2.2.2.1) ⟨C.1, C.2.1, C.2.2.1, C.2.2.2.1, C.2.2.2.2.1⟩ hmet' ⟨callB_of nn C.2.2.2.2.1 (lw_gi g2) rfl rfl rfl (C.2.2.2.2.1 _ g3) (C.2.2.2.2.1 _ hl) g6 ⟨by show 12 + 1 ≤ 2048; omega, by show 8 + (ν.2.2.1 + 11) + 60 * 12 ≤ 84000; omega⟩, C.2.2.2.2.1 _ g9.1, by rw [ec]; exact C.2.2.2.2.1 _ (gsel rfl)⟩ ⟨hbl, va_recv C.2.2.2.2.2.1.1 h1.2.2.2 (jm_tab_get g9.2.1) (q0 := a) (by rw [jm_W_get ha, jm_E_obj hkd g9.2.1]), fun U hU hW => ⟨rfl, by rw [hU]; exact h1, (C.2.2.2.2.2.1).warm hW (fun a q1 q2 => by rw [hU]; exact h2.2.1 a q1 q2)⟩⟩ rfl (by simpa using hn) hls rfl (lv_room hcat) hd ⟨by show cells + (M1.1 - M.1) ≤ 600000; omega, by show slots + (jm_sl M1.1 - jm_sl M.1) ≤ 7302250; rw [hMM]; omega⟩
theorem lw_ini (C : lw_C θ p s m c b) {k a : Nat} {ν : jm_Md} (hin : (k, ν, 0, 2) ∈ jm_mthT) (hk : k / 1000 = 11) (ha5 : a < 5000) (hK : jm_K 12 ν [.ref a] M = some (none, M1)) (hla : (jm_args [.ref a]).length ≤ ν.2.2.1) (hcat : (rest.map fun v => v.category).sum ≤ 8) (hd : decode code pc = .ok (.invokespecial (k % 1000), 3)) (hls : ls.size = 4) (hcs : cells + (M1.1 - M.1) ≤ 600000 ∧ slots + (jm_sl M1.1 - jm_sl M.1) ≤ 7302250) (h1 : jm_H θ M H) (h2 : va_S (jm_F θ) s.heap H locs)
    (kk : ∀ (H1 : Heap) (locs1 : List Loc), jm_H θ M1 H1 → va_S (jm_F θ) s.heap H1 locs1 → W p l e room_1 s m #[Value.ref b] below meth c H1 locs1 (cells + (M1.1 - M.1)) (slots + (jm_sl M1.1 - jm_sl M.1)) Q (F0 m (pc + 3) ls rest)) : W p l e room_1 s m #[Value.ref b] below meth c H locs cells slots Q (F0 m pc ls (.ref (θ.1 + a) :: rest)) := by
  obtain ⟨g1, g2, g3, g4, g5, g6, g7, g8, gl, gs, gi, gsel, gn⟩ := jm_goodM _ hin
  dsimp only at g1 g2 g3 g4 g5 g6 g7 g8 gl gs gi gsel gn
  have hmet : jm_Met l θ 12 ν [.ref a] M none M1 := jm_sound ⟨k, 0, 2, hin⟩ hla hK
  have g9 := gi (Or.inr (Or.inl rfl))
  have gn2 := gn (Or.inl rfl)
  have hl := gl (by decide)
  rw [hk] at hl
  have e4 := gn2.2
  rw [← jm_ad_lt ha5]
  refine jm_go (a := (Value.ref (jm_ad θ a) :: ([] : List Value).map (jm_cv θ)).toArray) (mc := M1.1 - M.1) (ms := jm_sl M1.1 - jm_sl M.1) (rest := rest) (r := none) (M1 := M1) ?_ h2 (fun H1 locs1 hH hS => kk H1 locs1 hH hS)
  exact va_runI (As := ([] : List Value).map (jm_cv θ)) (b := jm_ad θ a) (Ts := jm_G) (own := jm_own 11) (n := 0) (bytes := ν.2.1) (maxL := ν.2.2.1) ⟨C.1, C.2.1, C.2.2.1, C.2.2.2.1, C.2.2.2.2.1⟩ hmet ⟨by rw [← e4]; exact callB_of 0 C.2.2.2.2.1 (lw_gi g2) rfl rfl rfl (C.2.2.2.2.1 _ g3) (C.2.2.2.2.1 _ hl) g6 ⟨by show 12 + 1 ≤ 2048; omega, by show 8 + (ν.2.2.1 + 11) + 60 * 12 ≤ 84000; omega⟩, gn2.1, C.2.2.2.2.1 _ g9.1⟩ ⟨jm_blind, fun U hU hW => ⟨rfl, by rw [hU]; exact h1, (C.2.2.2.2.2.1).warm hW (fun a q1 q2 => by rw [hU]; exact h2.2.1 a q1 q2)⟩⟩ rfl rfl hls rfl (lv_room hcat) hd hcs
theorem lw_new (C : lw_C θ p s m c b) {ci idx : Nat} (hci : ci < 8) (hk : jm_kd M.1 = ci) (w1 : Cond.classLink (jm_own 11) idx (jm_tab ci).1 ∈ jm_G) (w2 : Cond.instantiable (jm_tab ci).1 (jm_tab ci).2.2 ∈ jm_G) (w3 : Cond.initialized (jm_tab ci).1 ∈ jm_G) (hd : decode code pc = .ok (.new idx, 3)) (hcs : cells + 1 ≤ 600000 ∧ slots + jm_ln M.1 ≤ 7302250) (h1 : jm_H θ M H) (h2 : va_S (jm_F θ) s.heap H locs)
    (kk : ∀ (H1 : Heap), jm_H θ (jm_grow M) H1 → va_S (jm_F θ) s.heap H1 locs → W p l e room_1 s m #[Value.ref b] below meth c H1 locs (cells + 1) (slots + jm_ln M.1) Q (F0 m (pc + 3) ls (.ref (θ.1 + M.1) :: rest))) : W p l e room_1 s m #[Value.ref b] below meth c H locs cells slots Q (F0 m pc ls rest) := by
  have hM : M.1 < 230 := jm_kd_lt (by omega)
  have hz := h1.2.1 hM
  have hln := jm_ln_tab (a := M.1) (by omega)
  rw [hk] at hln
  have hKn := C.2.2.2.2.2.1.1.1 ci _ (jm_tab_get hci)
  have hts := C.2.2.2.2.1
  refine jm_W_cells (a := cells + 1 - 1) (b := slots) (by omega) rfl ?_
  refine W.newcK C.1 C.2.1 C.2.2.2.1 (hts _ w1) (hts _ w2) (hts _ w3) rfl hd (by show cells + 1 - 1 + 1 ≤ 600000; omega) (by show slots + _ ≤ 7302250; rw [← hln]; exact hcs.2) hKn.2.1 hz fun H1 kC hkC e1 z1 o1 => ?_
  have hin : ∀ w ∈ u_ws (jm_tab ci).1 (jm_tab ci).2.1 (jm_tab ci).2.2, w ∈ jm_G := fun w hw => jm_G_u _ (List.mem_of_getElem? (jm_tab_get hci)) w hw
  have hob : t_OB (θ.1 + M.1) (θ.2.1.1 ci) (jm_tab ci).2.2 (θ.2.1.2 ci) H1 (vp_V ((List.range (jm_ln M.1)).map (jm_fv θ (jm_grow M) ci M.1))) := (u_born (jm_tyk ci) hts hin hKn hkC e1 (jm_tyk_ok hci)).to (fun j hj => by
    rw [jm_dfl' ci hci j (by have := jm_N23 ci hci; omega) hj]
    unfold vp_V
    rw [List.getD_eq_getElem?_getD, jm_fs_get (by omega)]
    unfold jm_fv jm_grow
    cases jm_rf ci j <;> simp [jm_rq, va_rf])
  have := kk H1 (jm_H_push h1 hM e1 z1 (fun q hq => o1 q hq) (by rw [jm_E_obj hk hci]; exact ⟨_, jm_tab_get hci, hob⟩)) (jm_S_push h2 (by rw [z1, hz]) (fun q hq => o1 q (by omega)))
  refine jm_W_cells (a := cells + 1) (b := slots + jm_ln M.1) (by omega) (by rw [hln]) this
end LC
