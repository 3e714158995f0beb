section JS
variable {p : Program} {l : Launch} {e : Env} {R : Room} {s : State} {m : MethodId} {args : Array Value} {below : List Frame} {meth : Method} {c : Code} {Q : State → Prop} {θ : jm_T} {μ : jm_Md} {n0 pc n d : Nat} {L S : List Value} {M M0 ME : jm_M} {rE : Option Value} {nx : jm_N} {H : Heap} {locs : List Loc} {cells slots : Nat}
theorem jm_s_grid (C : jm_X θ μ p s m args meth c) (hR : R = jm_rm d M0 ME) (hn0 : n0 = M0.1) (hQ : Q = MQ below (jm_Qc θ rE ME) args s (ME.1 - n0) (jm_sl ME.1 - jm_sl n0) (jm_F θ)) (hn : n0 ≤ M.1) {k : Nat} (hd : decode μ.2.1 pc = .ok (.multianewarray k 2, 4)) (hx : jm_grid μ k (pc + 4) L S M = some nx) (ok : jm_Ok p l e R s m args below meth c Q θ μ n0 d ME rE nx) : jm_V p l e R s m args below meth c Q θ μ n0 (pc, L, S, M) := by
  unfold jm_grid at hx
  split at hx
  · rename_i kk nn S1
    obtain ⟨hi, hy⟩ := jm_if_inv hx
    clear hx
    simp only [Bool.and_eq_true, decide_eq_true_eq] at hi
    obtain ⟨⟨⟨⟨⟨hkey, hk40⟩, hn8⟩, hkd⟩, hln⟩, hall⟩ := hi
    have hin : ∀ j, j < 8 → jm_kd (M.1 + 1 + j) = 8 ∧ jm_ln (M.1 + 1 + j) = 40 := by
      intro j hj
      have := List.all_eq_true.mp hall j (List.mem_range.mpr hj)
      simpa using this
    subst hk40
    subst hn8
    generalize hM' : (M.1 + 9, (fun a j => if M.1 ≤ a ∧ a < M.1 + 9 then 0 else M.2.1 a j), (fun a j => if a = M.1 then (if j < 8 then some (M.1 + 1 + j) else none) else if M.1 ≤ a ∧ a < M.1 + 9 then none else M.2.2 a j)) = M' at hy
    have e0 : M'.1 = M.1 + 9 := by rw [← hM']
    have eI : ∀ a j, M'.2.1 a j = if M.1 ≤ a ∧ a < M.1 + 9 then 0 else M.2.1 a j := fun a j => by rw [← hM']
    have eR : ∀ a j, M'.2.2 a j = if a = M.1 then (if j < 8 then some (M.1 + 1 + j) else none) else if M.1 ≤ a ∧ a < M.1 + 9 then none else M.2.2 a j := fun a j => by rw [← hM']
    clear hM'
    cases hy
    obtain ⟨g5, g6⟩ := jm_hd hkey (by decide)
    have hsl : jm_sl (M.1 + 9) = jm_sl M.1 + (8 + 8 * 40) := by
      have q0 := (hin 0 (by decide)).2
      have q1 := (hin 1 (by decide)).2
      have q2 := (hin 2 (by decide)).2
      have q3 := (hin 3 (by decide)).2
      have q4 := (hin 4 (by decide)).2
      have q5 := (hin 5 (by decide)).2
      have q6 := (hin 6 (by decide)).2
      have q7 := (hin 7 (by decide)).2
      have r0 := jm_sl_step M.1
      have r1 := jm_sl_step (M.1 + 1 + 0)
      have r2 := jm_sl_step (M.1 + 1 + 1)
      have r3 := jm_sl_step (M.1 + 1 + 2)
      have r4 := jm_sl_step (M.1 + 1 + 3)
      have r5 := jm_sl_step (M.1 + 1 + 4)
      have r6 := jm_sl_step (M.1 + 1 + 5)
      have r7 := jm_sl_step (M.1 + 1 + 6)
      have r8 := jm_sl_step (M.1 + 1 + 7)
      simp only [Nat.add_assoc, Nat.reduceAdd, Nat.add_zero] at *
      omega
    intro H locs ls h1 h2 h3
    have hM9 : M.1 + 1 + 7 < 230 := jm_kd_lt (by have := (hin 7 (by decide)).1; omega)
    have hz := h1.2.1 (by dsimp only; omega)
    dsimp only at hz
    have hts := C.2.2.2.2.2.2.1
    have hok := ok.1
    dsimp only at hok
    have hown : s.vm.findClass RX3 = some m.cls := by have := C.2.2.2.2.2.1; rw [g5] at this; exact this
    have hcI : s.vm.findClass (FieldType.array .int).toString = some θ.2.2.1.1 := (C.2.2.2.2.2.2.2.1.1.2 0 _ rfl).2
    subst g6
    intro T hT Xs
    have hrc : M.1 - n0 + (1 + 8) ≤ R.cells := by rw [hR]; show _ ≤ ME.1 - M0.1; omega
    have hrs : jm_sl M.1 - jm_sl n0 + (8 + 8 * 40) ≤ R.slots := by
      rw [hR]; show _ ≤ jm_sl ME.1 - jm_sl M0.1
      rw [← hn0]
      have a1 := jm_sl_mono hn
      have a2 := jm_sl_mono hok
      rw [e0, hsl] at a2
      omega
    obtain ⟨vm₁, cA, comp, -, fA, fC, hO, -, X', step⟩ := Xs.multianewarray2F C.1 hown (hts _ (List.mem_cons_of_mem _ jm_wgrid)) C.2.2.2.2.2.2.2.1.2.2.2.2 (hts _ (List.mem_cons_of_mem _ jm_wint)) (g := F0 m pc ls (.int 40 :: .int 8 :: S1.map (jm_cv θ))) rfl (by rw [C.2.1]; exact hd) rfl (by decide) (by decide) (by decide) (by decide) (by decide) rfl rfl hrc hrs
    have ec : some θ.2.2.1.1 = some comp := hcI.symm.trans fC
    cases ec
    have hcG : cA = θ.2.2.1.2.2.2 := Option.some.inj (fA.symm.trans (C.2.2.2.2.2.2.2.1.1.2 3 _ rfl).2)
    have e8 : (8 : Int32).toNatClampNeg = 8 := by decide
    have e40 : (40 : Int32).toNatClampNeg = 40 := by decide
    rw [e8, e40] at X' step
    generalize hF : Jvm.Free.Multi.fill (T.setVm vm₁) cA θ.2.2.1.1 8 40 (defaultValue .int) 8 = F at X' step
    have hTh : (T.setVm vm₁).heap = H := hT
    obtain ⟨f1, f2, -, -⟩ := Jvm.Free.Multi.fill_facts (T.setVm vm₁) cA θ.2.2.1.1 8 40 (defaultValue .int) 8
    rw [hF, hTh] at f1 f2
    have hold : ∀ x : Nat, x < H.size → F.heap[x]? = H[x]? := fun x hx => by
      have := Jvm.Free.Multi.fill_old (T.setVm vm₁) cA θ.2.2.1.1 8 40 (defaultValue .int) (a := x) (by rw [hTh]; exact hx) 8
      rw [hF, hTh] at this
      exact this
    have hrow : ∀ j : Nat, j < 8 → F.heap[H.size + 1 + j]? = some (Jvm.Free.Multi.innerC θ.2.2.1.1 40 (defaultValue .int)) := fun j hj => by
      have := Jvm.Free.Multi.fill_inner (T.setVm vm₁) cA θ.2.2.1.1 8 40 (defaultValue .int) 8 j hj
      rw [hF, hTh] at this
      exact this
    rw [vr_outer] at f2
    have hH : jm_H θ M' F.heap := by
      refine ⟨by rw [f1]; omega, fun _ => by rw [f1, e0]; omega, by rw [e0]; omega, ?_⟩
      intro q x hx
      have hq : q < M'.1 := by
        have := (List.getElem?_eq_some_iff.mp hx).1
        simpa [jm_W] using this
      rw [jm_W_get hq] at hx
      cases hx
      rw [e0] at hq
      by_cases q1 : q < M.1
      · rw [jm_E_congr (M := M) (by funext j; rw [eI, if_neg (by omega)]) (by funext j; rw [eR, if_neg (by omega), if_neg (by omega)])]
        have hb := h1.2.2.2 q _ (jm_W_get q1)
        exact hb.kept (hold _ (by show θ.1 + q < _; omega))
      · by_cases q2 : q = M.1
        · subst q2
          rw [jm_E_grd hkd, hln]
          show F.heap[θ.1 + M.1]? = some (vp_cell _ _)
          rw [vp_cell_q, ← hz, f2, hcG]
          congr 2
          funext j
          rw [eR, if_pos rfl]
          by_cases hj : j < 8
          · rw [if_pos hj, if_pos hj]
            show _ = va_rf (some (jm_ad θ (M.1 + 1 + j)))
            rw [jm_ad_lt (by omega), hz]
            congr 2
            omega
          · rw [if_neg hj, if_neg hj]
            rfl
        · obtain ⟨j, hj, rfl⟩ : ∃ j, j < 8 ∧ q = M.1 + 1 + j := ⟨q - M.1 - 1, by omega, by omega⟩
          rw [jm_E_int (hin j hj).1, (hin j hj).2]
          show F.heap[θ.1 + (M.1 + 1 + j)]? = some (vp_cell _ _)
          rw [show θ.1 + (M.1 + 1 + j) = H.size + 1 + j by omega, hrow j hj, vp_cell_i]
          show some ({ cls := θ.2.2.1.1, slots := Array.replicate 40 (Value.int 0), vm := .none } : Cell) = _
          rw [arrV_new]
          congr 2
          funext i
          rw [eI, if_pos (by omega)]
    have kk := ok.2 F.heap locs ls hH ⟨by rw [f1]; have := h2.1; omega, fun x h4 h5 => (hold x (Nat.lt_of_lt_of_le h4 h2.1)).trans (h2.2.1 x h4 h5), h2.2.2⟩ h3
    dsimp only at kk
    rw [List.map_cons, show jm_cv θ (.ref M.1) = .ref H.size by show Value.ref (jm_ad θ M.1) = _; rw [jm_ad_lt (by omega), hz], e0, hsl] at kk
    have kk2 := jm_W_cells (x := M.1 - n0 + 1 + 8) (y := jm_sl M.1 - jm_sl n0 + 8 + 8 * 40) (by omega) (by have := jm_sl_mono hn; omega) kk
    obtain ⟨t, a1, b1⟩ := kk2 F rfl X'
    refine ⟨t, step t ?_, b1⟩
    have e9 : T.heap.size = H.size := by rw [hT]
    rw [e9]
    exact a1
  · cases hx
theorem jm_sI (C : jm_X θ μ p s m args meth c) (hR : R = jm_rm d M0 ME) (hn0 : n0 = M0.1) (hQ : Q = MQ below (jm_Qc θ rE ME) args s (ME.1 - n0) (jm_sl ME.1 - jm_sl n0) (jm_F θ)) (hn : n0 ≤ M.1) {i : Instr} (hd : decode μ.2.1 pc = .ok (i, n)) (hx : jm_ex d μ i n pc L S M = some nx) (ok : jm_Ok p l e R s m args below meth c Q θ μ n0 d ME rE nx) : jm_V p l e R s m args below meth c Q θ μ n0 (pc, L, S, M) := by
  cases i
  case iconst a0 => obtain ⟨rfl, hx⟩ := jm_ln_inv hx; exact jm_s_iconst C hd hx ok
  case bipush a0 => obtain ⟨rfl, hx⟩ := jm_ln_inv hx; exact jm_s_bipush C hd hx ok
  case sipush a0 => obtain ⟨rfl, hx⟩ := jm_ln_inv hx; exact jm_s_sipush C hd hx ok
  case lconst a0 => obtain ⟨rfl, hx⟩ := jm_ln_inv hx; exact jm_s_lconst C hd hx ok
  case ldc a0 => obtain ⟨rfl, hx⟩ := jm_ln_inv hx; exact jm_s_ldc C hd hx ok
  case ldc_w a0 => obtain ⟨rfl, hx⟩ := jm_ln_inv hx; exact jm_s_ldc_w C hd hx ok
  case ldc2_w a0 => obtain ⟨rfl, hx⟩ := jm_ln_inv hx; exact jm_s_ldc2_w C hd hx ok
  case iload_n a0 => obtain ⟨rfl, hx⟩ := jm_ln_inv hx; exact jm_s_iload_n C hd hx ok
  case iload a0 => obtain ⟨rfl, hx⟩ := jm_ln_inv hx; exact jm_s_iload C hd hx ok
  case lload_n a0 => obtain ⟨rfl, hx⟩ := jm_ln_inv hx; exact jm_s_lload_n C hd hx ok
  case lload a0 => obtain ⟨rfl, hx⟩ := jm_ln_inv hx; exact jm_s_lload C hd hx ok
  case aload_n a0 => obtain ⟨rfl, hx⟩ := jm_ln_inv hx; exact jm_s_aload_n C hd hx ok
  case aload a0 => obtain ⟨rfl, hx⟩ := jm_ln_inv hx; exact jm_s_aload C hd hx ok
  case istore_n a0 => obtain ⟨rfl, hx⟩ := jm_ln_inv hx; exact jm_s_istore_n C hd hx ok
  case istore a0 => obtain ⟨rfl, hx⟩ := jm_ln_inv hx; exact jm_s_istore C hd hx ok
  case lstore_n a0 => obtain ⟨rfl, hx⟩ := jm_ln_inv hx; exact jm_s_lstore_n C hd hx ok
  case lstore a0 => obtain ⟨rfl, hx⟩ := jm_ln_inv hx; exact jm_s_lstore C hd hx ok
  case astore_n a0 => obtain ⟨rfl, hx⟩ := jm_ln_inv hx; exact jm_s_astore_n C hd hx ok
  case astore a0 => obtain ⟨rfl, hx⟩ := jm_ln_inv hx; exact jm_s_astore C hd hx ok
  case iinc a0 a1 => obtain ⟨rfl, hx⟩ := jm_ln_inv hx; exact jm_s_iinc C hd hx ok
  case iadd => obtain ⟨rfl, hx⟩ := jm_ln_inv hx; exact jm_s_iadd C hd hx ok
  case isub => obtain ⟨rfl, hx⟩ := jm_ln_inv hx; exact jm_s_isub C hd hx ok
  case imul => obtain ⟨rfl, hx⟩ := jm_ln_inv hx; exact jm_s_imul C hd hx ok
  case iand => obtain ⟨rfl, hx⟩ := jm_ln_inv hx; exact jm_s_iand C hd hx ok
  case ior => obtain ⟨rfl, hx⟩ := jm_ln_inv hx; exact jm_s_ior C hd hx ok
  case ixor => obtain ⟨rfl, hx⟩ := jm_ln_inv hx; exact jm_s_ixor C hd hx ok
  case ishl => obtain ⟨rfl, hx⟩ := jm_ln_inv hx; exact jm_s_ishl C hd hx ok
  case ishr => obtain ⟨rfl, hx⟩ := jm_ln_inv hx; exact jm_s_ishr C hd hx ok
  case iushr => obtain ⟨rfl, hx⟩ := jm_ln_inv hx; exact jm_s_iushr C hd hx ok
  case idiv => obtain ⟨rfl, hx⟩ := jm_ln_inv hx; exact jm_s_idiv C hd hx ok
  case irem => obtain ⟨rfl, hx⟩ := jm_ln_inv hx; exact jm_s_irem C hd hx ok
  case ineg => obtain ⟨rfl, hx⟩ := jm_ln_inv hx; exact jm_s_ineg C hd hx ok
  case i2b => obtain ⟨rfl, hx⟩ := jm_ln_inv hx; exact jm_s_i2b C hd hx ok
  case i2s => obtain ⟨rfl, hx⟩ := jm_ln_inv hx; exact jm_s_i2s C hd hx ok
  case ladd => obtain ⟨rfl, hx⟩ := jm_ln_inv hx; exact jm_s_ladd C hd hx ok
  case lsub => obtain ⟨rfl, hx⟩ := jm_ln_inv hx; exact jm_s_lsub C hd hx ok
  case lmul => obtain ⟨rfl, hx⟩ := jm_ln_inv hx; exact jm_s_lmul C hd hx ok
  case ldiv => obtain ⟨rfl, hx⟩ := jm_ln_inv hx; exact jm_s_ldiv C hd hx ok
  case lrem => obtain ⟨rfl, hx⟩ := jm_ln_inv hx; exact jm_s_lrem C hd hx ok
  case lcmp => obtain ⟨rfl, hx⟩ := jm_ln_inv hx; exact jm_s_lcmp C hd hx ok
  case i2l => obtain ⟨rfl, hx⟩ := jm_ln_inv hx; exact jm_s_i2l C hd hx ok
  case l2i => obtain ⟨rfl, hx⟩ := jm_ln_inv hx; exact jm_s_l2i C hd hx ok
  case dup => obtain ⟨rfl, hx⟩ := jm_ln_inv hx; exact jm_s_dup C hd hx ok
  case dup2 => obtain ⟨rfl, hx⟩ := jm_ln_inv hx; exact jm_s_dup2 C hd hx ok
  case pop => obtain ⟨rfl, hx⟩ := jm_ln_inv hx; exact jm_s_pop C hd hx ok
  case ifCond a0 a1 => obtain ⟨rfl, hx⟩ := jm_ln_inv hx; exact jm_s_ifc C hd hx ok
  case if_icmp a0 a1 => obtain ⟨rfl, hx⟩ := jm_ln_inv hx; exact jm_s_icmp C hd hx ok
  case goto a0 => obtain ⟨rfl, hx⟩ := jm_ln_inv hx; exact jm_s_goto C hd hx ok
  case tableswitch a0 a1 a2 a3 => exact jm_s_tsw C hd hx ok
  case lookupswitch a0 a1 => exact jm_s_lsw C hd hx ok
  case getfield a0 => obtain ⟨rfl, hx⟩ := jm_ln_inv hx; exact jm_s_getfield C hd hx ok
  case putfield a0 => obtain ⟨rfl, hx⟩ := jm_ln_inv hx; exact jm_s_putfield C hd hx ok
  case getstatic a0 => obtain ⟨rfl, hx⟩ := jm_ln_inv hx; exact jm_s_getstatic C hd hx ok
  case iaload => obtain ⟨rfl, hx⟩ := jm_ln_inv hx; exact jm_s_iaload C hd hx ok
  case iastore => obtain ⟨rfl, hx⟩ := jm_ln_inv hx; exact jm_s_iastore C hd hx ok
  case baload => obtain ⟨rfl, hx⟩ := jm_ln_inv hx; exact jm_s_baload C hd hx ok
  case bastore => obtain ⟨rfl, hx⟩ := jm_ln_inv hx; exact jm_s_bastore C hd hx ok
  case aaload => obtain ⟨rfl, hx⟩ := jm_ln_inv hx; exact jm_s_aaload C hd hx ok
  case aastore => obtain ⟨rfl, hx⟩ := jm_ln_inv hx; exact jm_s_aastore C hd hx ok
  case arraylength => obtain ⟨rfl, hx⟩ := jm_ln_inv hx; exact jm_s_arraylength C hd hx ok
  case new a0 => obtain ⟨rfl, hx⟩ := jm_ln_inv hx; exact jm_s_new C hR hn0 hQ hn hd hx ok
  case newarray ty => obtain ⟨rfl, hx⟩ := jm_ln_inv hx; cases ty <;> first | exact jm_s_newarr C hR hn0 hQ hn rfl (Or.inl ⟨rfl, rfl⟩) hd hx ok | exact jm_s_newarr C hR hn0 hQ hn rfl (Or.inr ⟨rfl, rfl⟩) hd hx ok | cases hx
  case anewarray a0 => obtain ⟨rfl, hx⟩ := jm_ln_inv hx; exact jm_s_newq C hR hn0 hQ hn hd hx ok
  case multianewarray k dm => match dm, hd, hx with
    | 2, hd, hx => obtain ⟨rfl, hx⟩ := jm_ln_inv hx; exact jm_s_grid C hR hn0 hQ hn hd hx ok
    | 0, hd, hx => cases hx
    | 1, hd, hx => cases hx
    | _ + 3, hd, hx => cases hx
  case invokestatic a0 => obtain ⟨rfl, hx⟩ := jm_ln_inv hx; exact jm_s_invs C hR hn0 hQ hn hd hx ok
  case invokevirtual a0 => obtain ⟨rfl, hx⟩ := jm_ln_inv hx; exact jm_s_invv C hR hn0 hQ hn hd hx ok
  case invokespecial a0 => obtain ⟨rfl, hx⟩ := jm_ln_inv hx; exact jm_s_invi C hR hn0 hQ hn hd hx ok
  case ireturn => obtain ⟨rfl, hx⟩ := jm_ln_inv hx; exact jm_s_ret C hR hn0 hQ hn hd hx ok
  case lreturn => obtain ⟨rfl, hx⟩ := jm_ln_inv hx; exact jm_s_retl C hR hn0 hQ hn hd hx ok
  case areturn => obtain ⟨rfl, hx⟩ := jm_ln_inv hx; exact jm_s_reta C hR hn0 hQ hn hd hx ok
  case return_ => obtain ⟨rfl, hx⟩ := jm_ln_inv hx; exact jm_s_retv C hR hn0 hQ hn hd hx ok
  all_goals cases hx
end JS
