/-! the law: its loop -/
theorem lw_h0 : decode code 18 = .ok (.iload_n 3, 1) ∧ decode code 19 = .ok (.aload_n 0, 1) ∧ decode code 20 = .ok (.arraylength, 1) ∧ decode code 21 = .ok (.bipush 6, 2) ∧ decode code 23 = .ok (.isub, 1) ∧ decode code 24 = .ok (.if_icmp .gt 1408, 3) ∧ decode code 27 = .ok (.aload_n 0, 1) ∧ decode code 28 = .ok (.iload_n 3, 1) ∧ decode code 29 = .ok (.iaload, 1) ∧ decode code 30 = .ok (.bipush 63, 2) ∧ decode code 32 = .ok (.iand, 1) := by decide +kernel
theorem lw_h1 : decode code 1426 = .ok (.iinc 3 6, 3) ∧ decode code 1429 = .ok (.goto (-1411), 3) ∧ decode code 1432 = .ok (.iconst 1, 1) ∧ decode code 1433 = .ok (.ireturn, 1) := by decide +kernel
theorem lw_h2 : decode code 0 = .ok (.new 7, 3) ∧ decode code 3 = .ok (.dup, 1) ∧ decode code 4 = .ok (.invokespecial 9, 3) ∧ decode code 7 = .ok (.astore_n 1, 1) ∧ decode code 8 = .ok (.new 10, 3) ∧ decode code 11 = .ok (.dup, 1) ∧ decode code 12 = .ok (.invokespecial 12, 3) ∧ decode code 15 = .ok (.astore_n 2, 1) ∧ decode code 16 = .ok (.iconst 0, 1) ∧ decode code 17 = .ok (.istore_n 3, 1) := by decide +kernel
set_option maxRecDepth 100000 in
theorem lw_sw : ∃ len, decode code 33 = .ok (.tableswitch 1393 0 40 #[179, 222, 265, 328, 351, 374, 387, 400, 413, 436, 469, 492, 525, 558, 591, 624, 647, 680, 703, 736, 749, 772, 795, 818, 851, 884, 927, 960, 983, 1046, 1089, 1102, 1156, 1199, 1222, 1245, 1268, 1301, 1334, 1357, 1380], len) := ⟨179, by decide +kernel⟩
theorem lw_63 (x : Int32) : ∃ n : Nat, n < 64 ∧ x &&& 63 = nI n := by
  have h : (x &&& 63).toBitVec.toNat ≤ 63 := by
    rw [Int32.toBitVec_and, BitVec.toNat_and]
    exact Nat.and_le_right
  refine ⟨(x &&& 63).toBitVec.toNat, by omega, ?_⟩
  apply Int32.toBitVec_inj.mp
  apply BitVec.eq_of_toNat_eq
  show _ = (Int32.ofNat (x &&& 63).toBitVec.toNat).toBitVec.toNat
  rw [Int32.toBitVec_ofNat', BitVec.toNat_ofNat]
  omega
theorem lw_sub6 {L i : Nat} (hL : L ≤ 3072) (hi : i ≤ 4000) : (nI L - 6 < nI i) ↔ L < i + 6 := by
  have e : (nI L - 6).toInt = (L : Int) - 6 := by
    rw [Int32.toInt_sub, nI_toInt (by omega), show (6 : Int32).toInt = 6 by decide]
    rw [Int.bmod_eq_of_le (by omega) (by omega)]
  rw [Int32.lt_iff_toInt_lt, e, nI_toInt (by omega)]
  omega
set_option maxHeartbeats 4000000 in
set_option maxRecDepth 100000 in
theorem lw_loop {p : Program} {e : Env} {s : State} {m : MethodId} {below : List Frame} {meth : Method} {c : Code} (l : Launch) {b L : Nat} {xs : Nat → Int32} {θ : jm_T} (hL : L ≤ 3072) (C0 : lw_At p s m meth c b L xs) (C : lw_C θ p s m c b) : ∀ (f i : Nat), L < i + f → i ≤ L → ∀ (mem : Nat → Nat → Int32) (H : Heap) (locs : List Loc) (ls : Array Slot), Rel mem → jm_H θ (jm_mk mem) H → va_S (jm_F θ) s.heap H locs → lv_has ls 4 [(0, .ref b), (1, .ref θ.1), (2, .ref (θ.1 + 217)), (3, .int (nI i))] → W p l e room_1 s m #[Value.ref b] below meth c H locs 600000 7302250 (lw_Z below #[Value.ref b] s) (F0 m 18 ls []) := by
  obtain ⟨hx, hb, hr, hml, hown, hts, hX, hbl, hlocks, hgv⟩ := id C0
  obtain ⟨d18, d19, d20, d21, d23, d24, d27, d28, d29, d30, d32⟩ := lw_h0
  obtain ⟨d1426, d1429, d1432, d1433⟩ := lw_h1
  obtain ⟨len, d33⟩ := lw_sw
  have hbA : ¬ jm_F θ b := by
    show ¬ θ.1 ≤ b
    rw [C.2.2.2.2.2.2]
    omega
  intro f
  induction f with
  | zero => intro i h1 h2; omega
  | succ f ih =>
    intro i hf hi mem H locs ls hR h1 h2 hl
    refine lv_iload_n hx hb d18 rfl (lv_at hl 3 rfl) ?_
    refine lv_aload_n hx hb d19 rfl (lv_at hl 0 rfl) ?_
    refine va_slen hx hb hX hbl hbA h2 d20 ?_
    refine lv_bipush (v := 6) hx hb d21 (by decide) ?_
    refine lv_isub hx hb d23 ?_
    refine lv_icmp_gt (tgt := 1432) hx hb d24 (by decide) (fun hgt => ?_) (fun hgt => ?_)
    · refine lv_iconst (v := 1) hx hb d1432 (by decide) ?_
      refine va_forget (fun q hq => by have := h2.2.2 q hq; have e := C.2.2.2.2.2.2; show s.heap.size ≤ q.base; rw [← e]; exact this) ?_
      exact lw_ret hx hb hr hlocks d1433
    · have hi6 : i + 6 ≤ L := by
        rcases Nat.lt_or_ge L (i + 6) with q | q
        · exact absurd ((lw_sub6 hL (by omega)).mpr q) hgt
        · exact q
      have go : ∀ (mem' : Nat → Nat → Int32) (H1 : Heap) (locs1 : List Loc), Rel mem' → jm_H θ (jm_mk mem') H1 → va_S (jm_F θ) s.heap H1 locs1 → W p l e room_1 s m #[Value.ref b] below meth c H1 locs1 600000 7302250 (lw_Z below #[Value.ref b] s) (F0 m 1426 ls []) := fun mem' H1 locs1 hR' h1' h2' => by
        refine lv_iinc (v := nI (i + 6)) (lv' := [(3, .int (nI (i + 6))), (0, .ref b), (1, .ref θ.1), (2, .ref (θ.1 + 217))]) hx hb d1426 hl (k := 3) rfl (by rw [← nI_add]; rfl) (by decide) rfl (fun ls hl => ?_)
        refine lv_goto (tgt := 18) hx hb d1429 (by decide) ?_
        exact ih (i + 6) (by omega) hi6 mem' H1 locs1 ls hR' h1' h2' (lv_sub hl [1, 2, 3, 0] rfl)
      refine lv_aload_n hx hb d27 rfl (lv_at hl 0 rfl) ?_
      refine lv_iload_n hx hb d28 rfl (lv_at hl 3 rfl) ?_
      refine va_sld hx hb hX hbl hbA h2 (vp_in_nI (by omega) (by omega)) d29 ?_
      refine lv_bipush (v := 63) hx hb d30 (by decide) ?_
      refine lv_iand hx hb d32 ?_
      obtain ⟨n, hn, en⟩ := lw_63 (xs (nI i).toNatClampNeg)
      rw [en]
      rcases (by omega : n = 0 ∨ n = 1 ∨ n = 2 ∨ n = 3 ∨ n = 4 ∨ n = 5 ∨ n = 6 ∨ n = 7 ∨ n = 8 ∨ n = 9 ∨ n = 10 ∨ n = 11 ∨ n = 12 ∨ n = 13 ∨ n = 14 ∨ n = 15 ∨ n = 16 ∨ n = 17 ∨ n = 18 ∨ n = 19 ∨ n = 20 ∨ n = 21 ∨ n = 22 ∨ n = 23 ∨ n = 24 ∨ n = 25 ∨ n = 26 ∨ n = 27 ∨ n = 28 ∨ n = 29 ∨ n = 30 ∨ n = 31 ∨ n = 32 ∨ n = 33 ∨ n = 34 ∨ n = 35 ∨ n = 36 ∨ n = 37 ∨ n = 38 ∨ n = 39 ∨ n = 40 ∨ 40 < n) with rfl | rfl | rfl | rfl | rfl | rfl | rfl | rfl | rfl | rfl | rfl | rfl | rfl | rfl | rfl | rfl | rfl | rfl | rfl | rfl | rfl | rfl | rfl | rfl | rfl | rfl | rfl | rfl | rfl | rfl | rfl | rfl | rfl | rfl | rfl | rfl | rfl | rfl | rfl | rfl | rfl | hn40
      · refine lv_tableIn (x := nI 0) (off := 179) (tgt := 212) hx hb d33 (by decide) (by decide) (by decide) (by decide) ?_
        exact lw_case (n := 3) C hX hbl hL hi6 hl hR (by decide) lw_d0 (by decide) (by decide) lw_m0.1 lw_m0.2 rfl rfl rfl (by decide) (by decide) (api_row (xs (i + 1 + 0)) (xs (i + 1 + 1)) (xs (i + 1 + 2))) h1 h2 go
      · refine lv_tableIn (x := nI 1) (off := 222) (tgt := 255) hx hb d33 (by decide) (by decide) (by decide) (by decide) ?_
        exact lw_case (n := 3) C hX hbl hL hi6 hl hR (by decide) lw_d1 (by decide) (by decide) lw_m1.1 lw_m1.2 rfl rfl rfl (by decide) (by decide) (api_set (xs (i + 1 + 0)) (xs (i + 1 + 1)) (xs (i + 1 + 2))) h1 h2 go
      · refine lv_tableIn (x := nI 2) (off := 265) (tgt := 298) hx hb d33 (by decide) (by decide) (by decide) (by decide) ?_
        exact lw_case (n := 5) C hX hbl hL hi6 hl hR (by decide) lw_d2 (by decide) (by decide) lw_m2.1 lw_m2.2 rfl rfl rfl (by decide) (by decide) (api_copy (xs (i + 1 + 0)) (xs (i + 1 + 1)) (xs (i + 1 + 2)) (xs (i + 1 + 3)) (xs (i + 1 + 4))) h1 h2 go
      · refine lv_tableIn (x := nI 3) (off := 328) (tgt := 361) hx hb d33 (by decide) (by decide) (by decide) (by decide) ?_
        exact lw_case (n := 1) C hX hbl hL hi6 hl hR (by decide) lw_d3 (by decide) (by decide) lw_m3.1 lw_m3.2 rfl rfl rfl (by decide) (by decide) (api_drop (xs (i + 1 + 0))) h1 h2 go
      · refine lv_tableIn (x := nI 4) (off := 351) (tgt := 384) hx hb d33 (by decide) (by decide) (by decide) (by decide) ?_
        exact lw_case (n := 1) C hX hbl hL hi6 hl hR (by decide) lw_d4 (by decide) (by decide) lw_m4.1 lw_m4.2 rfl rfl rfl (by decide) (by decide) (api_feed (xs (i + 1 + 0))) h1 h2 go
      · refine lv_tableIn (x := nI 5) (off := 374) (tgt := 407) hx hb d33 (by decide) (by decide) (by decide) (by decide) ?_
        exact lw_case (n := 0) C hX hbl hL hi6 hl hR (by decide) lw_d5 (by decide) (by decide) lw_m5.1 lw_m5.2 rfl rfl rfl (by decide) (by decide) (api_isle) h1 h2 go
      · refine lv_tableIn (x := nI 6) (off := 387) (tgt := 420) hx hb d33 (by decide) (by decide) (by decide) (by decide) ?_
        exact lw_case (n := 0) C hX hbl hL hi6 hl hR (by decide) lw_d6 (by decide) (by decide) lw_m6.1 lw_m6.2 rfl rfl rfl (by decide) (by decide) (api_fault) h1 h2 go
      · refine lv_tableIn (x := nI 7) (off := 400) (tgt := 433) hx hb d33 (by decide) (by decide) (by decide) (by decide) ?_
        exact lw_case (n := 0) C hX hbl hL hi6 hl hR (by decide) lw_d7 (by decide) (by decide) lw_m7.1 lw_m7.2 rfl rfl rfl (by decide) (by decide) (api_undo) h1 h2 go
      · refine lv_tableIn (x := nI 8) (off := 413) (tgt := 446) hx hb d33 (by decide) (by decide) (by decide) (by decide) ?_
        exact lw_case (n := 1) C hX hbl hL hi6 hl hR (by decide) lw_d8 (by decide) (by decide) lw_m8.1 lw_m8.2 rfl rfl rfl (by decide) (by decide) (api_hours (xs (i + 1 + 0))) h1 h2 go
      · refine lv_tableIn (x := nI 9) (off := 436) (tgt := 469) hx hb d33 (by decide) (by decide) (by decide) (by decide) ?_
        exact lw_case (n := 2) C hX hbl hL hi6 hl hR (by decide) lw_d9 (by decide) (by decide) lw_m9.1 lw_m9.2 rfl rfl rfl (by decide) (by decide) (api_send (xs (i + 1 + 0)) (xs (i + 1 + 1))) h1 h2 go
      · refine lv_tableIn (x := nI 10) (off := 469) (tgt := 502) hx hb d33 (by decide) (by decide) (by decide) (by decide) ?_
        exact lw_case (n := 1) C hX hbl hL hi6 hl hR (by decide) lw_d10 (by decide) (by decide) lw_m10.1 lw_m10.2 rfl rfl rfl (by decide) (by decide) (api_wind (xs (i + 1 + 0))) h1 h2 go
      · refine lv_tableIn (x := nI 11) (off := 492) (tgt := 525) hx hb d33 (by decide) (by decide) (by decide) (by decide) ?_
        exact lw_case (n := 2) C hX hbl hL hi6 hl hR (by decide) lw_d11 (by decide) (by decide) lw_m11.1 lw_m11.2 rfl rfl rfl (by decide) (by decide) (api_sand (xs (i + 1 + 0)) (xs (i + 1 + 1))) h1 h2 go
      · refine lv_tableIn (x := nI 12) (off := 525) (tgt := 558) hx hb d33 (by decide) (by decide) (by decide) (by decide) ?_
        exact lw_case (n := 2) C hX hbl hL hi6 hl hR (by decide) lw_d12 (by decide) (by decide) lw_m12.1 lw_m12.2 rfl rfl rfl (by decide) (by decide) (api_speed (xs (i + 1 + 0)) (xs (i + 1 + 1))) h1 h2 go
      · refine lv_tableIn (x := nI 13) (off := 558) (tgt := 591) hx hb d33 (by decide) (by decide) (by decide) (by decide) ?_
        exact lw_case (n := 2) C hX hbl hL hi6 hl hR (by decide) lw_d13 (by decide) (by decide) lw_m13.1 lw_m13.2 rfl rfl rfl (by decide) (by decide) (api_boat (xs (i + 1 + 0)) (xs (i + 1 + 1))) h1 h2 go
      · refine lv_tableIn (x := nI 14) (off := 591) (tgt := 624) hx hb d33 (by decide) (by decide) (by decide) (by decide) ?_
        exact lw_case (n := 2) C hX hbl hL hi6 hl hR (by decide) lw_d14 (by decide) (by decide) lw_m14.1 lw_m14.2 rfl rfl rfl (by decide) (by decide) (api_cell (xs (i + 1 + 0)) (xs (i + 1 + 1))) h1 h2 go
      · refine lv_tableIn (x := nI 15) (off := 624) (tgt := 657) hx hb d33 (by decide) (by decide) (by decide) (by decide) ?_
        exact lw_case (n := 1) C hX hbl hL hi6 hl hR (by decide) lw_d15 (by decide) (by decide) lw_m15.1 lw_m15.2 rfl rfl rfl (by decide) (by decide) (api_stand (xs (i + 1 + 0))) h1 h2 go
      · refine lv_tableIn (x := nI 16) (off := 647) (tgt := 680) hx hb d33 (by decide) (by decide) (by decide) (by decide) ?_
        exact lw_case (n := 2) C hX hbl hL hi6 hl hR (by decide) lw_d16 (by decide) (by decide) lw_m16.1 lw_m16.2 rfl rfl rfl (by decide) (by decide) (api_ahead (xs (i + 1 + 0)) (xs (i + 1 + 1))) h1 h2 go
      · refine lv_tableIn (x := nI 17) (off := 680) (tgt := 713) hx hb d33 (by decide) (by decide) (by decide) (by decide) ?_
        exact lw_case (n := 1) C hX hbl hL hi6 hl hR (by decide) lw_d17 (by decide) (by decide) lw_m17.1 lw_m17.2 rfl rfl rfl (by decide) (by decide) (api_owner (xs (i + 1 + 0))) h1 h2 go
      · refine lv_tableIn (x := nI 18) (off := 703) (tgt := 736) hx hb d33 (by decide) (by decide) (by decide) (by decide) ?_
        exact lw_case (n := 2) C hX hbl hL hi6 hl hR (by decide) lw_d18 (by decide) (by decide) lw_m18.1 lw_m18.2 rfl rfl rfl (by decide) (by decide) (api_held (xs (i + 1 + 0)) (xs (i + 1 + 1))) h1 h2 go
      · refine lv_tableIn (x := nI 19) (off := 736) (tgt := 769) hx hb d33 (by decide) (by decide) (by decide) (by decide) ?_
        exact lw_case (n := 0) C hX hbl hL hi6 hl hR (by decide) lw_d19 (by decide) (by decide) lw_m19.1 lw_m19.2 rfl rfl rfl (by decide) (by decide) (api_shows) h1 h2 go
      · refine lv_tableIn (x := nI 20) (off := 749) (tgt := 782) hx hb d33 (by decide) (by decide) (by decide) (by decide) ?_
        exact lw_case (n := 1) C hX hbl hL hi6 hl hR (by decide) lw_d20 (by decide) (by decide) lw_m20.1 lw_m20.2 rfl rfl rfl (by decide) (by decide) (api_dry (xs (i + 1 + 0))) h1 h2 go
      · refine lv_tableIn (x := nI 21) (off := 772) (tgt := 805) hx hb d33 (by decide) (by decide) (by decide) (by decide) ?_
        exact lw_case (n := 1) C hX hbl hL hi6 hl hR (by decide) lw_d21 (by decide) (by decide) lw_m21.1 lw_m21.2 rfl rfl rfl (by decide) (by decide) (api_open (xs (i + 1 + 0))) h1 h2 go
      · refine lv_tableIn (x := nI 22) (off := 795) (tgt := 828) hx hb d33 (by decide) (by decide) (by decide) (by decide) ?_
        exact lw_case (n := 1) C hX hbl hL hi6 hl hR (by decide) lw_d22 (by decide) (by decide) lw_m22.1 lw_m22.2 rfl rfl rfl (by decide) (by decide) (api_first (xs (i + 1 + 0))) h1 h2 go
      · refine lv_tableIn (x := nI 23) (off := 818) (tgt := 851) hx hb d33 (by decide) (by decide) (by decide) (by decide) ?_
        exact lw_case (n := 2) C hX hbl hL hi6 hl hR (by decide) lw_d23 (by decide) (by decide) lw_m23.1 lw_m23.2 rfl rfl rfl (by decide) (by decide) (api_latest (xs (i + 1 + 0)) (xs (i + 1 + 1))) h1 h2 go
      · refine lv_tableIn (x := nI 24) (off := 851) (tgt := 884) hx hb d33 (by decide) (by decide) (by decide) (by decide) ?_
        exact lw_case (n := 2) C hX hbl hL hi6 hl hR (by decide) lw_d24 (by decide) (by decide) lw_m24.1 lw_m24.2 rfl rfl rfl (by decide) (by decide) (api_winds (xs (i + 1 + 0)) (xs (i + 1 + 1))) h1 h2 go
      · refine lv_tableIn (x := nI 25) (off := 884) (tgt := 917) hx hb d33 (by decide) (by decide) (by decide) (by decide) ?_
        exact lw_case (n := 3) C hX hbl hL hi6 hl hR (by decide) lw_d25 (by decide) (by decide) lw_m25.1 lw_m25.2 rfl rfl rfl (by decide) (by decide) (api_recall (xs (i + 1 + 0)) (xs (i + 1 + 1)) (xs (i + 1 + 2))) h1 h2 go
      · refine lv_tableIn (x := nI 26) (off := 927) (tgt := 960) hx hb d33 (by decide) (by decide) (by decide) (by decide) ?_
        exact lw_case (n := 2) C hX hbl hL hi6 hl hR (by decide) lw_d26 (by decide) (by decide) lw_m26.1 lw_m26.2 rfl rfl rfl (by decide) (by decide) (api_fleet (xs (i + 1 + 0)) (xs (i + 1 + 1))) h1 h2 go
      · refine lv_tableIn (x := nI 27) (off := 960) (tgt := 993) hx hb d33 (by decide) (by decide) (by decide) (by decide) ?_
        exact lw_case (n := 1) C hX hbl hL hi6 hl hR (by decide) lw_d27 (by decide) (by decide) lw_m27.1 lw_m27.2 rfl rfl rfl (by decide) (by decide) (api_sandFor (xs (i + 1 + 0))) h1 h2 go
      · refine lv_tableIn (x := nI 28) (off := 983) (tgt := 1016) hx hb d33 (by decide) (by decide) (by decide) (by decide) ?_
        exact lw_case (n := 5) C hX hbl hL hi6 hl hR (by decide) lw_d28 (by decide) (by decide) lw_m28.1 lw_m28.2 rfl rfl rfl (by decide) (by decide) (api_who (xs (i + 1 + 0)) (xs (i + 1 + 1)) (xs (i + 1 + 2)) (xs (i + 1 + 3)) (xs (i + 1 + 4))) h1 h2 go
      · refine lv_tableIn (x := nI 29) (off := 1046) (tgt := 1079) hx hb d33 (by decide) (by decide) (by decide) (by decide) ?_
        exact lw_case (n := 3) C hX hbl hL hi6 hl hR (by decide) lw_d29 (by decide) (by decide) lw_m29.1 lw_m29.2 rfl rfl rfl (by decide) (by decide) (api_barred (xs (i + 1 + 0)) (xs (i + 1 + 1)) (xs (i + 1 + 2))) h1 h2 go
      · refine lv_tableIn (x := nI 30) (off := 1089) (tgt := 1122) hx hb d33 (by decide) (by decide) (by decide) (by decide) ?_
        exact lw_case (n := 0) C hX hbl hL hi6 hl hR (by decide) lw_d30 (by decide) (by decide) lw_m30.1 lw_m30.2 rfl rfl rfl (by decide) (by decide) (api_rich) h1 h2 go
      · refine lv_tableIn (x := nI 31) (off := 1102) (tgt := 1135) hx hb d33 (by decide) (by decide) (by decide) (by decide) ?_
        exact lw_caseL (n := 4) C hX hbl hL hi6 hl hR (by decide) lw_d31 (by decide) (by decide) lw_m31.1 lw_m31.2 rfl rfl rfl (by decide) (by decide) (api_wreck (xs (i + 1 + 0)) (xs (i + 1 + 1)) (xs (i + 1 + 2)) (xs (i + 1 + 3))) h1 h2 go
      · refine lv_tableIn (x := nI 32) (off := 1156) (tgt := 1189) hx hb d33 (by decide) (by decide) (by decide) (by decide) ?_
        exact lw_case (n := 3) C hX hbl hL hi6 hl hR (by decide) lw_d32 (by decide) (by decide) lw_m32.1 lw_m32.2 rfl rfl rfl (by decide) (by decide) (api_drawn (xs (i + 1 + 0)) (xs (i + 1 + 1)) (xs (i + 1 + 2))) h1 h2 go
      · refine lv_tableIn (x := nI 33) (off := 1199) (tgt := 1232) hx hb d33 (by decide) (by decide) (by decide) (by decide) ?_
        exact lw_case (n := 1) C hX hbl hL hi6 hl hR (by decide) lw_d33 (by decide) (by decide) lw_m33.1 lw_m33.2 rfl rfl rfl (by decide) (by decide) (api_image (xs (i + 1 + 0))) h1 h2 go
      · refine lv_tableIn (x := nI 34) (off := 1222) (tgt := 1255) hx hb d33 (by decide) (by decide) (by decide) (by decide) ?_
        exact lw_case (n := 1) C hX hbl hL hi6 hl hR (by decide) lw_d34 (by decide) (by decide) lw_m34.1 lw_m34.2 rfl rfl rfl (by decide) (by decide) (api_restore (xs (i + 1 + 0))) h1 h2 go
      · refine lv_tableIn (x := nI 35) (off := 1245) (tgt := 1278) hx hb d33 (by decide) (by decide) (by decide) (by decide) ?_
        exact lw_case (n := 1) C hX hbl hL hi6 hl hR (by decide) lw_d35 (by decide) (by decide) lw_m35.1 lw_m35.2 rfl rfl rfl (by decide) (by decide) (api_kind (xs (i + 1 + 0))) h1 h2 go
      · refine lv_tableIn (x := nI 36) (off := 1268) (tgt := 1301) hx hb d33 (by decide) (by decide) (by decide) (by decide) ?_
        exact lw_case (n := 2) C hX hbl hL hi6 hl hR (by decide) lw_d36 (by decide) (by decide) lw_m36.1 lw_m36.2 rfl rfl rfl (by decide) (by decide) (api_as (xs (i + 1 + 0)) (xs (i + 1 + 1))) h1 h2 go
      · refine lv_tableIn (x := nI 37) (off := 1301) (tgt := 1334) hx hb d33 (by decide) (by decide) (by decide) (by decide) ?_
        exact lw_case (n := 2) C hX hbl hL hi6 hl hR (by decide) lw_d37 (by decide) (by decide) lw_m37.1 lw_m37.2 rfl rfl rfl (by decide) (by decide) (api_ask (xs (i + 1 + 0)) (xs (i + 1 + 1))) h1 h2 go
      · refine lv_tableIn (x := nI 38) (off := 1334) (tgt := 1367) hx hb d33 (by decide) (by decide) (by decide) (by decide) ?_
        exact lw_case (n := 1) C hX hbl hL hi6 hl hR (by decide) lw_d38 (by decide) (by decide) lw_m38.1 lw_m38.2 rfl rfl rfl (by decide) (by decide) (api_trace (xs (i + 1 + 0))) h1 h2 go
      · refine lv_tableIn (x := nI 39) (off := 1357) (tgt := 1390) hx hb d33 (by decide) (by decide) (by decide) (by decide) ?_
        exact lw_case (n := 1) C hX hbl hL hi6 hl hR (by decide) lw_d39 (by decide) (by decide) lw_m39.1 lw_m39.2 rfl rfl rfl (by decide) (by decide) (api_count (xs (i + 1 + 0))) h1 h2 go
      · refine lv_tableIn (x := nI 40) (off := 1380) (tgt := 1413) hx hb d33 (by decide) (by decide) (by decide) (by decide) ?_
        exact lw_case (n := 0) C hX hbl hL hi6 hl hR (by decide) lw_d40 (by decide) (by decide) lw_m40.1 lw_m40.2 rfl rfl rfl (by decide) (by decide) (api_status) h1 h2 go
      · refine lv_tableOut (tgt := 1426) hx hb d33 (Or.inr (by rw [nI_toInt (by omega)]; omega)) (by decide) ?_
        exact go mem H locs hR h1 h2
