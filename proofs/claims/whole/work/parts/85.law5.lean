/-! the law: its start -/
theorem lw_c7 : Cond.classLink (jm_own 11) 7 (jm_tab 6).1 ∈ jm_G := jm_memG (List.mem_of_getElem? (i := 12) (by decide +kernel)) (by decide +kernel)
theorem lw_c10 : Cond.classLink (jm_own 11) 10 (jm_tab 7).1 ∈ jm_G := jm_memG (List.mem_of_getElem? (i := 707) (by decide +kernel)) (by decide +kernel)
set_option maxRecDepth 100000 in
theorem lw_i6 : (11009, md_X6_init, 0, 2) ∈ jm_mthT := List.mem_of_getElem? (i := 140) rfl
set_option maxRecDepth 100000 in
theorem lw_i7 : (11012, md_X7_init, 0, 2) ∈ jm_mthT := List.mem_of_getElem? (i := 141) rfl
set_option maxRecDepth 100000 in
theorem lw_sl : jm_sl 230 ≤ 50000 := by decide +kernel
theorem lw_new0 {θ : jm_T} {s : State} (h : θ.1 = s.heap.size) : jm_H θ iz0 s.heap := ⟨by rw [h]; exact Nat.le_refl _, fun _ => by rw [h]; rfl, by decide, fun k q hq => by cases (show ([] : va_W)[k]? = some q from hq)⟩
set_option maxHeartbeats 4000000 in
set_option maxRecDepth 100000 in
theorem whole_start {p : Program} {e : Env} {s : State} {m : MethodId} {below : List Frame} {meth : Method} {c : Code} (l : Launch) {b L : Nat} {xs : Nat → Int32} (hL : L ≤ 3072) (C0 : lw_At p s m meth c b L xs) : W p l e room_1 s m #[Value.ref b] below meth c s.heap [] 0 0 (lw_Z below #[Value.ref b] s) (entryFrame m ([Value.ref b] : List Value).toArray 4) := by
  obtain ⟨θ, C⟩ := lw_Q0 C0
  obtain ⟨hx, hb, hr, hml, hown, hts, hX, hbl, hlocks, hgv⟩ := id C0
  obtain ⟨d0, d3, d4, d7, d8, d11, d12, d15, d16, d17⟩ := lw_h2
  obtain ⟨M1, M2, K1, n1, K2, n2, ly, hR⟩ := ini_ex
  have hl := lv_entry ([.ref b]) (n := 4) (Nat.le_of_ble_eq_true rfl)
  rw [lg_entry_eq]
  generalize (lg_sl ([.ref b]) ++ List.replicate (4 - (lg_sl ([.ref b])).length) Slot.unset).toArray = ls at hl ⊢
  have hl : lv_has ls 4 [(0, .ref b)] := hl
  have s1 := jm_sl_mono (show (1 : Nat) ≤ 230 by decide)
  have s2 := jm_sl_mono (show (217 : Nat) ≤ 230 by decide)
  have s3 := jm_sl_mono (show (218 : Nat) ≤ 230 by decide)
  have s0 := lw_sl
  have L0 : jm_ln 0 ≤ 1000 := by decide
  have L217 : jm_ln 217 ≤ 1000 := by decide
  have g1 : (jm_grow iz0).1 = 1 := rfl
  have g2 : (jm_grow M1).1 = 218 := by show M1.1 + 1 = 218; omega
  refine lw_new C (M := iz0) (ci := 6) (by decide) (by decide) lw_c7 (lw_inst (by decide)) (lw_init (by decide)) d0 ⟨by decide, by show 0 + jm_ln 0 ≤ _; omega⟩ (lw_new0 C.2.2.2.2.2.2) va_S.rf (fun H h1 h2 => ?_)
  refine lv_dup hx hb d3 rfl ?_
  refine lw_ini C lw_i6 (by decide) (a := 0) (by decide) K1 (by decide) (Nat.le_of_ble_eq_true rfl) d4 hl.1 ⟨by rw [g1, n1]; decide, by rw [g1, n1]; show 0 + jm_ln 0 + (jm_sl 217 - jm_sl 1) ≤ _; omega⟩ h1 h2 (fun H locs h1 h2 => ?_)
  refine W.widen (k := 300) (n := 100000) (by rw [g1, n1]; decide) (by rw [g1, n1]; show 0 + jm_ln 0 + (jm_sl 217 - jm_sl 1) ≤ _; omega) ?_
  refine lv_astore_n (lv' := [(1, .ref θ.1), (0, .ref b)]) hx hb d7 rfl hl (by decide) rfl (fun ls hl => ?_)
  refine lw_new C (M := M1) (ci := 7) (by decide) (by rw [n1]; decide) lw_c10 (lw_inst (by decide)) (lw_init (by decide)) d8 ⟨by decide, by rw [n1]; omega⟩ h1 h2 (fun H h1 h2 => ?_)
  rw [n1]
  refine lv_dup hx hb d11 rfl ?_
  refine lw_ini C lw_i7 (by decide) (a := 217) (by decide) K2 (by decide) (Nat.le_of_ble_eq_true rfl) d12 hl.1 ⟨by rw [g2, n2]; decide, by rw [g2, n2]; omega⟩ h1 h2 (fun H locs h1 h2 => ?_)
  refine W.widen (k := 600000) (n := 7302250) (by rw [g2, n2]; decide) (by rw [g2, n2]; omega) ?_
  refine lv_astore_n (lv' := [(2, .ref (θ.1 + 217)), (1, .ref θ.1), (0, .ref b)]) hx hb d15 rfl hl (by decide) rfl (fun ls hl => ?_)
  refine lv_iconst (v := nI 0) hx hb d16 (by decide) ?_
  refine lv_istore_n (lv' := [(3, .int (nI 0)), (2, .ref (θ.1 + 217)), (1, .ref θ.1), (0, .ref b)]) hx hb d17 rfl hl (by decide) rfl (fun ls hl => ?_)
  exact lw_loop l hL C0 C (L + 1) 0 (by omega) (Nat.zero_le _) M2.2.1 H locs ls hR (jm_H_ly h1 n2 ly) h2 (lv_sub hl [3, 2, 1, 0] rfl)
set_option maxHeartbeats 4000000 in
theorem lw_walk (l : Launch) (b : Addr) (xs : List Int32) : MetFree l x (headSpec (Jvm.Cond.code x code maxLocals ret :: tables_1) room_1) (lw_P b xs) (fun _ _ _ _ _ => True) lw_Q := by
  refine MetFree.of_bodyS (code := code) (maxLocals := maxLocals) (ret := ret) (by decide) ?_ ?_
  · intro args s m h hn
    obtain ⟨meth, c, h1, h2, h3, h4, h5, h6, -, -⟩ := Cond.code_spec hn (atoms_spec (ws := Jvm.Cond.code x code maxLocals ret :: tables_1) h _ List.mem_cons_self)
    exact ⟨meth, c, h1, h2, h3, h4, h5, h6⟩
  · intro p e s m args below meth c s₁ B hml0 hP _
    obtain ⟨rfl, hx, hbd, hgv⟩ := hP
    obtain ⟨scr, harrAt, hlist, hof, hsmall⟩ := hx
    obtain ⟨hcb, hkn, -, -⟩ := State.arrayAt?_spec harrAt
    have hown : s.vm.findClass R_law = some m.cls := findClass_of_methodNamed B.named
    have hts0 : ∀ c ∈ (Jvm.Cond.code x code maxLocals ret :: tables_1), c.before #[Value.ref b] s = true := atoms_spec (ws := Jvm.Cond.code x code maxLocals ret :: tables_1) B.pre
    have hts : ∀ w ∈ lw_tbl, w.before #[Value.ref b] s = true := k2_hts_sels lw_privs (fun w hw => hts0 w (List.mem_cons_of_mem _ hw)) lw_privs_ok
    have hml : c.maxLocals = 4 := B.maxLocals_eq (hts0 _ List.mem_cons_self)
    have X₀ : Stand p l e room_1 s m #[Value.ref b] below meth c s₁ [] 0 0 := Stand.of_body B
    have hh0 : s₁.heap = s.heap := by rw [B.state]; rfl
    have hsz : scr.slots.size = xs.length := by rw [← Array.length_toList, hlist, List.length_map]
    have hval : ∀ j : Nat, j < xs.length → scr.slots[j]? = some (.int (xs.getD j 0)) := fun j hj => by
      rw [← Array.getElem?_toList, hlist]
      simp [hj]
    have hbl : b < s.heap.size := (Array.getElem?_eq_some_iff.mp hcb).1
    have hX : va_X b xs.length (fun j => xs.getD j 0) s s.heap := ⟨scr, hcb, hof, hkn, hsz, hval⟩
    have K : W p l e room_1 s m #[Value.ref b] below meth c s₁.heap [] 0 0 (lw_Z below #[Value.ref b] s) (entryFrame m ([Value.ref b] : List Value).toArray 4) := by
      rw [hh0]
      exact whole_start l hbd ⟨B.exec, B.bytes, B.returns, hml, hown, hts, hX, hbl, B.notSynchronized, hgv⟩
    obtain ⟨t, a1, o, b1, b2, b3⟩ := K s₁ rfl X₀
    exact ⟨t, o, a1, b1, b2, b3⟩
theorem lw_pre_spec {args : Array Value} {s : State} (h : (Jvm.Cond.and given_1 narrow_1).before args s = true) (hr : rest_1_c.before args s = true) : ∃ (b : Addr) (xs : List Int32), lw_P b xs args s := by
  have hs := flat_of_before _ h
  have hq := flat_of_before _ hr
  have hc : (Cond.count 1).before args s = true := hs _ (by decide +kernel)
  have harr : (Cond.arrayOf (.arg 0) .int).before args s = true := hs _ (by decide +kernel)
  have hle : (Cond.le (.length (.arg 0)) (.int 3072)).before args s = true := hs _ (by decide +kernel)
  have hlen : (Cond.isInt (.length (.arg 0))).before args s = true := hq _ (by decide +kernel)
  have hall : (Cond.all (.arg 0) (.isInt (.elem (.arg 0) (.index 0)))).before args s = true := hq _ (by decide +kernel)
  obtain ⟨b, xs, hb, hx⟩ := State.ints_of_pre rfl harr hlen hall
  have hsm : xs.length < 2 ^ 31 := hx.choose_spec.2.2.2
  have hev : (Term.length (.arg 0)).eval args s none [] s = some (.int xs.length.toInt32) := hx.length_eval hb
  have hv := Cond.le_ints hev (show (Term.int 3072).eval args s none [] s = some (.int 3072) from rfl)
  have hd : xs.length.toInt32 ≤ 3072 := by
    simpa [Cond.before, Cond.holds, hv] using hle
  have hN : xs.length ≤ 3072 := (Int32.ofNat_le_ofNat hsm (by decide)).mp (show Int32.ofNat xs.length ≤ Int32.ofNat 3072 from hd)
  exact ⟨b, xs, Cond.one_arg hc (show args[0]? = some (.ref b) from hb), hx, hN, h⟩
theorem lw_comes (l : Launch) : Comes l x (Jvm.Cond.code x code maxLocals ret :: tables_1) room_1 (fun tb e args s => Calls_1 tb e args s ∧ rest_1 tb e args s ∧ Pre_1 tb e args s)
    (fun _ _ args s o t => lw_Q args s o t) := by
  intro p e ha hc hk s m args below hf hfit hheap happ hpre
  obtain ⟨b, xs, hP⟩ := lw_pre_spec hpre.2.2 hpre.2.1
  obtain ⟨k, o, h1, h2, h3, hQ⟩ := lw_walk l b xs p e ha hc hk s m args below hf ((Spec.applies_iff_loose hf).mp happ).1 hP trivial
  exact ⟨k, o, h1, h2, h3, hQ⟩
theorem lw_frame {s t : State} {o : Outcome} {args : Array Value} (h : Framed s o t [] 600000 7302250) :
    Framed s o t (fieldLocs frame_1_writes args s ++ arrayLocs frame_1_arrays args s ++ staticLocs frame_1_statics s) 600000 7302250 := h
theorem lw_limb (L : Cond) (hL : ∀ (args : Array Value) (s t : State), L.after args s (.returned (some (.int 1))) t = true) :
    ArmFor flags0 classFile x code maxLocals ret World_1 tables_1 room_1 Calls_1 rest_1 Pre_1
      (fun tb e a s o t => postC L tb e a s o t ∧ Framed s o t (fieldLocs frame_1_writes a s ++ arrayLocs frame_1_arrays a s ++ staticLocs frame_1_statics s) 600000 7302250) := by
  intro l _ _ _ p e ha hc hk s m args below hf hfit hheap happ hpre
  obtain ⟨k, o, h1, h2, h3, rfl, hF⟩ := lw_comes l p e ha hc hk s m args below hf hfit hheap happ hpre
  exact ⟨k, _, h1, h2, h3, hL args s _, lw_frame hF⟩
theorem i_vc : Claimed_1_1 ∧ Claimed_1_2 := ⟨lw_limb limb_1_1 (fun args s t => by simp [limb_1_1, Cond.after, Cond.holds, Cond.value]), lw_limb limb_1_2 (fun args s t => Cond.after_iff.mpr (by
  first | (rw [show limb_1_2 = Cond.eq .result (.int 1) from rfl, Cond.eq_ints (x := 1) (y := 1) rfl rfl]; simp; done) | (simp [limb_1_2, Cond.value, Term.eval]; done)))⟩
