/-! trials: what is changed on both sides -/
theorem nI_subN {n k : Nat} (h : k ≤ n) (hn : n < 1000000) : nI n - nI k = nI (n - k) := by
  apply Int32.toInt_inj.mp
  rw [pk_sub_toInt (by omega) (by omega), nI_toInt (by omega)]
  omega
theorem nI_dec {k : Nat} (h : k < 100000) : nI (k + 1) + (-1) = nI k := by
  have e : nI (k + 1) + (-1) = nI (k + 1) - nI 1 := by
    rw [Int32.sub_eq_add_neg]
    rfl
  rw [e, nI_subN (n := k + 1) (k := 1) (by omega) (by omega)]
  rfl
section GU
variable {C N : Nat} {x : Nat → Nat → Int32} {y : Nat → Int32}
theorem GN.snt (g : GN C N x y) {s : Nat} (hs : s < 2 ^ N) : GN C N (jm_up x 0 7 (nI s)) (upd y 6 (nI s)) := by
  obtain ⟨o, ⟨v1, v2, v3, v4, v5, v6, v7⟩, ⟨⟨r0, r1, r2, r3, r4, r5, r6, r7⟩, hc, hb⟩⟩ := g
  have ne : ∀ i, i ≠ 6 → upd y 6 (nI s) i = y i := fun i hi => pk_un hi
  have x0 : ∀ j, j ≠ 7 → jm_up x 0 7 (nI s) 0 j = x 0 j := fun j hj => jup_ne (fun h => hj h.2)
  have xr : ∀ r j, r ≠ 0 → jm_up x 0 7 (nI s) r j = x r j := fun r j hr => jup_ne (fun h => hr h.1)
  refine ⟨o, ⟨?_, ?_, ?_, ?_, ⟨s, hs, pk_us⟩, ?_, fun b hbN => ?_⟩, ⟨⟨?_, ?_, ?_, ?_, ?_, ?_, ?_, ?_⟩, fun c hcC => ?_, fun b hbN => ?_⟩⟩
  · rw [ne 3 (by decide)]; exact v1
  · rw [ne 4 (by decide)]; exact v2
  · rw [ne 0 (by decide)]; exact v3
  · rw [ne 2 (by decide)]; exact v4
  · rw [ne 7 (by decide)]; exact v6
  · rw [ne (14 + b) (by omega), ne (32 + b) (by omega), ne (20 + b) (by omega), ne (26 + b) (by omega)]; exact v7 b hbN
  · rw [x0 0 (by decide), ne 0 (by decide)]; exact r0
  · rw [x0 1 (by decide), ne 1 (by decide)]; exact r1
  · rw [x0 2 (by decide), ne 2 (by decide)]; exact r2
  · rw [x0 3 (by decide), ne 5 (by decide)]; exact r3
  · rw [x0 4 (by decide), ne 7 (by decide)]; exact r4
  · rw [x0 5 (by decide), ne 3 (by decide)]; exact r5
  · rw [x0 6 (by decide), ne 4 (by decide)]; exact r6
  · rw [jup_eq, pk_us]
  · rw [xr 1 c (by decide), ne (8 + c) (by omega)]; exact hc c hcC
  · rw [xr 2 b (by decide), xr 3 b (by decide), xr 4 b (by decide), xr 5 b (by decide), xr 6 b (by decide), ne (14 + b) (by omega), ne (32 + b) (by omega), ne (20 + b) (by omega), ne (26 + b) (by omega), ne (38 + b) (by omega)]; exact hb b hbN
theorem GN.wnd (g : GN C N x y) {w : Nat} (hw : w ≤ 3) : GN C N (jm_up x 0 2 (nI w)) (upd y 2 (nI w)) := by
  obtain ⟨o, ⟨v1, v2, v3, v4, v5, v6, v7⟩, ⟨⟨r0, r1, r2, r3, r4, r5, r6, r7⟩, hc, hb⟩⟩ := g
  have ne : ∀ i, i ≠ 2 → upd y 2 (nI w) i = y i := fun i hi => pk_un hi
  have x0 : ∀ j, j ≠ 2 → jm_up x 0 2 (nI w) 0 j = x 0 j := fun j hj => jup_ne (fun h => hj h.2)
  have xr : ∀ r j, r ≠ 0 → jm_up x 0 2 (nI w) r j = x r j := fun r j hr => jup_ne (fun h => hr h.1)
  refine ⟨o, ⟨?_, ?_, ?_, ⟨w, hw, pk_us⟩, ?_, ?_, fun b hbN => ?_⟩, ⟨⟨?_, ?_, ?_, ?_, ?_, ?_, ?_, ?_⟩, fun c hcC => ?_, fun b hbN => ?_⟩⟩
  · rw [ne 3 (by decide)]; exact v1
  · rw [ne 4 (by decide)]; exact v2
  · rw [ne 0 (by decide)]; exact v3
  · rw [ne 6 (by decide)]; exact v5
  · rw [ne 7 (by decide)]; exact v6
  · rw [ne (14 + b) (by omega), ne (32 + b) (by omega), ne (20 + b) (by omega), ne (26 + b) (by omega)]; exact v7 b hbN
  · rw [x0 0 (by decide), ne 0 (by decide)]; exact r0
  · rw [x0 1 (by decide), ne 1 (by decide)]; exact r1
  · rw [jup_eq, pk_us]
  · rw [x0 3 (by decide), ne 5 (by decide)]; exact r3
  · rw [x0 4 (by decide), ne 7 (by decide)]; exact r4
  · rw [x0 5 (by decide), ne 3 (by decide)]; exact r5
  · rw [x0 6 (by decide), ne 4 (by decide)]; exact r6
  · rw [x0 7 (by decide), ne 6 (by decide)]; exact r7
  · rw [xr 1 c (by decide), ne (8 + c) (by omega)]; exact hc c hcC
  · rw [xr 2 b (by decide), xr 3 b (by decide), xr 4 b (by decide), xr 5 b (by decide), xr 6 b (by decide), ne (14 + b) (by omega), ne (32 + b) (by omega), ne (20 + b) (by omega), ne (26 + b) (by omega), ne (38 + b) (by omega)]; exact hb b hbN
theorem GN.hgt (g : GN C N x y) {c : Nat} {v : Int32} (hcC : c < C) : GN C N (jm_up x 1 c v) (upd y (8 + c) v) := by
  obtain ⟨o, ⟨v1, v2, v3, v4, v5, v6, v7⟩, ⟨⟨r0, r1, r2, r3, r4, r5, r6, r7⟩, hc, hb⟩⟩ := g
  have h6 : c < 6 := by omega
  have ne : ∀ i, i ≠ 8 + c → upd y (8 + c) v i = y i := fun i hi => pk_un hi
  have xr : ∀ r j, r ≠ 1 → jm_up x 1 c v r j = x r j := fun r j hr => jup_ne (fun h => hr h.1)
  refine ⟨o, ⟨?_, ?_, ?_, ?_, ?_, ?_, fun b hbN => ?_⟩, ⟨⟨?_, ?_, ?_, ?_, ?_, ?_, ?_, ?_⟩, fun c' hcC' => ?_, fun b hbN => ?_⟩⟩
  · rw [ne 3 (by omega)]; exact v1
  · rw [ne 4 (by omega)]; exact v2
  · rw [ne 0 (by omega)]; exact v3
  · rw [ne 2 (by omega)]; exact v4
  · rw [ne 6 (by omega)]; exact v5
  · rw [ne 7 (by omega)]; exact v6
  · rw [ne (14 + b) (by omega), ne (32 + b) (by omega), ne (20 + b) (by omega), ne (26 + b) (by omega)]; exact v7 b hbN
  · rw [xr 0 0 (by decide), ne 0 (by omega)]; exact r0
  · rw [xr 0 1 (by decide), ne 1 (by omega)]; exact r1
  · rw [xr 0 2 (by decide), ne 2 (by omega)]; exact r2
  · rw [xr 0 3 (by decide), ne 5 (by omega)]; exact r3
  · rw [xr 0 4 (by decide), ne 7 (by omega)]; exact r4
  · rw [xr 0 5 (by decide), ne 3 (by omega)]; exact r5
  · rw [xr 0 6 (by decide), ne 4 (by omega)]; exact r6
  · rw [xr 0 7 (by decide), ne 6 (by omega)]; exact r7
  · by_cases q : c' = c
    · subst q; rw [jup_eq, pk_us]
    · rw [jup_ne (fun h => q h.2), ne (8 + c') (by omega)]; exact hc c' hcC'
  · rw [xr 2 b (by decide), xr 3 b (by decide), xr 4 b (by decide), xr 5 b (by decide), xr 6 b (by decide), ne (14 + b) (by omega), ne (32 + b) (by omega), ne (20 + b) (by omega), ne (26 + b) (by omega), ne (38 + b) (by omega)]; exact hb b hbN
theorem GN.spd (g : GN C N x y) {c p : Nat} (hcN : c < N) (h1 : 1 ≤ p) (h9 : p ≤ 9) : GN C N (jm_up x 5 c (nI p)) (upd y (26 + c) (nI p)) := by
  obtain ⟨o, ⟨v1, v2, v3, v4, v5, v6, v7⟩, ⟨⟨r0, r1, r2, r3, r4, r5, r6, r7⟩, hc, hb⟩⟩ := g
  have h6 : c < 6 := by omega
  have ne : ∀ i, i ≠ 26 + c → upd y (26 + c) (nI p) i = y i := fun i hi => pk_un hi
  have xr : ∀ r j, r ≠ 5 → jm_up x 5 c (nI p) r j = x r j := fun r j hr => jup_ne (fun h => hr h.1)
  refine ⟨o, ⟨?_, ?_, ?_, ?_, ?_, ?_, fun b hbN => ⟨?_, ?_, ?_⟩⟩, ⟨⟨?_, ?_, ?_, ?_, ?_, ?_, ?_, ?_⟩, fun c' hcC' => ?_, fun b hbN => ⟨?_, ?_, ?_, ?_, ?_⟩⟩⟩
  · rw [ne 3 (by omega)]; exact v1
  · rw [ne 4 (by omega)]; exact v2
  · rw [ne 0 (by omega)]; exact v3
  · rw [ne 2 (by omega)]; exact v4
  · rw [ne 6 (by omega)]; exact v5
  · rw [ne 7 (by omega)]; exact v6
  · rw [ne (14 + b) (by omega)]; exact (v7 b hbN).1
  · rw [ne (32 + b) (by omega), ne (20 + b) (by omega)]; exact (v7 b hbN).2.1
  · by_cases q : b = c
    · subst q; exact ⟨p, h1, h9, pk_us⟩
    · rw [ne (26 + b) (by omega)]; exact (v7 b hbN).2.2
  · rw [xr 0 0 (by decide), ne 0 (by omega)]; exact r0
  · rw [xr 0 1 (by decide), ne 1 (by omega)]; exact r1
  · rw [xr 0 2 (by decide), ne 2 (by omega)]; exact r2
  · rw [xr 0 3 (by decide), ne 5 (by omega)]; exact r3
  · rw [xr 0 4 (by decide), ne 7 (by omega)]; exact r4
  · rw [xr 0 5 (by decide), ne 3 (by omega)]; exact r5
  · rw [xr 0 6 (by decide), ne 4 (by omega)]; exact r6
  · rw [xr 0 7 (by decide), ne 6 (by omega)]; exact r7
  · rw [xr 1 c' (by decide), ne (8 + c') (by omega)]; exact hc c' hcC'
  · rw [xr 2 b (by decide), ne (14 + b) (by omega)]; exact (hb b hbN).1
  · rw [xr 3 b (by decide), ne (32 + b) (by omega)]; exact (hb b hbN).2.1
  · rw [xr 4 b (by decide), ne (20 + b) (by omega)]; exact (hb b hbN).2.2.1
  · by_cases q : b = c
    · subst q; rw [jup_eq, pk_us]
    · rw [jup_ne (fun h => q h.2), ne (26 + b) (by omega)]; exact (hb b hbN).2.2.2.1
  · rw [xr 6 b (by decide), ne (38 + b) (by omega)]; exact (hb b hbN).2.2.2.2
theorem GN.knd (g : GN C N x y) {c p : Nat} (hcN : c < N) (h1 : 1 ≤ p) (h5 : p ≤ 5) : GN C N (jm_up x 2 c (nI p)) (upd y (14 + c) (nI p)) := by
  obtain ⟨o, ⟨v1, v2, v3, v4, v5, v6, v7⟩, ⟨⟨r0, r1, r2, r3, r4, r5, r6, r7⟩, hc, hb⟩⟩ := g
  have h6 : c < 6 := by omega
  have ne : ∀ i, i ≠ 14 + c → upd y (14 + c) (nI p) i = y i := fun i hi => pk_un hi
  have xr : ∀ r j, r ≠ 2 → jm_up x 2 c (nI p) r j = x r j := fun r j hr => jup_ne (fun h => hr h.1)
  refine ⟨o, ⟨?_, ?_, ?_, ?_, ?_, ?_, fun b hbN => ⟨?_, ?_, ?_⟩⟩, ⟨⟨?_, ?_, ?_, ?_, ?_, ?_, ?_, ?_⟩, fun c' hcC' => ?_, fun b hbN => ⟨?_, ?_, ?_, ?_, ?_⟩⟩⟩
  · rw [ne 3 (by omega)]; exact v1
  · rw [ne 4 (by omega)]; exact v2
  · rw [ne 0 (by omega)]; exact v3
  · rw [ne 2 (by omega)]; exact v4
  · rw [ne 6 (by omega)]; exact v5
  · rw [ne 7 (by omega)]; exact v6
  · by_cases q : b = c
    · subst q; exact ⟨p, h1, h5, pk_us⟩
    · rw [ne (14 + b) (by omega)]; exact (v7 b hbN).1
  · rw [ne (32 + b) (by omega), ne (20 + b) (by omega)]; exact (v7 b hbN).2.1
  · rw [ne (26 + b) (by omega)]; exact (v7 b hbN).2.2
  · rw [xr 0 0 (by decide), ne 0 (by omega)]; exact r0
  · rw [xr 0 1 (by decide), ne 1 (by omega)]; exact r1
  · rw [xr 0 2 (by decide), ne 2 (by omega)]; exact r2
  · rw [xr 0 3 (by decide), ne 5 (by omega)]; exact r3
  · rw [xr 0 4 (by decide), ne 7 (by omega)]; exact r4
  · rw [xr 0 5 (by decide), ne 3 (by omega)]; exact r5
  · rw [xr 0 6 (by decide), ne 4 (by omega)]; exact r6
  · rw [xr 0 7 (by decide), ne 6 (by omega)]; exact r7
  · rw [xr 1 c' (by decide), ne (8 + c') (by omega)]; exact hc c' hcC'
  · by_cases q : b = c
    · subst q; rw [jup_eq, pk_us]
    · rw [jup_ne (fun h => q h.2), ne (14 + b) (by omega)]; exact (hb b hbN).1
  · rw [xr 3 b (by decide), ne (32 + b) (by omega)]; exact (hb b hbN).2.1
  · rw [xr 4 b (by decide), ne (20 + b) (by omega)]; exact (hb b hbN).2.2.1
  · rw [xr 5 b (by decide), ne (26 + b) (by omega)]; exact (hb b hbN).2.2.2.1
  · rw [xr 6 b (by decide), ne (38 + b) (by omega)]; exact (hb b hbN).2.2.2.2
theorem GN.sent (g : GN C N x y) : ∃ s, s < 2 ^ N ∧ x 0 7 = nI s ∧ y 6 = nI s := by
  obtain ⟨o, ⟨v1, v2, v3, v4, ⟨s, h1, h2⟩, v6, v7⟩, ⟨⟨r0, r1, r2, r3, r4, r5, r6, r7⟩, hc, hb⟩⟩ := g
  exact ⟨s, h1, by rw [r7, h2], h2⟩
theorem GN.N6 (g : GN C N x y) : N ≤ 6 := by obtain ⟨o, hv, hr⟩ := g; exact hv.2.1.2.2
theorem GN.N1 (g : GN C N x y) : 1 ≤ N := by obtain ⟨o, hv, hr⟩ := g; exact hv.2.1.2.1
theorem GN.C6 (g : GN C N x y) : C ≤ 6 := by obtain ⟨o, hv, hr⟩ := g; exact hv.1.2.2
theorem GN.C1 (g : GN C N x y) : 1 ≤ C := by obtain ⟨o, hv, hr⟩ := g; exact hv.1.2.1
set_option maxRecDepth 100000 in
theorem or_bit2 : ∀ j, j < 6 → ∀ s, s < 64 → nI s ||| (nI 1 <<< (nI j &&& 31)) = nI (s ||| 2 ^ j) := by decide +kernel
theorem s64 {N s : Nat} (h : s < 2 ^ N) (hN : N ≤ 6) : s < 64 := Nat.lt_of_lt_of_le h (pow_le hN)
theorem GN.orb (g : GN C N x y) {j : Nat} (hj : j < N) : GN C N (jm_up x 0 7 (x 0 7 ||| (nI 1 <<< (nI j &&& 31)))) (upd y 6 (y 6 ||| (nI 1 <<< (nI j &&& 31)))) := by
  obtain ⟨s, h1, h2, h3⟩ := g.sent
  have := g.N6
  rw [h2, h3, or_bit2 j (by omega) s (s64 h1 this)]
  exact g.snt (Nat.or_lt_two_pow h1 (Nat.pow_lt_pow_right (by decide) hj))
/-- who owns it n hours on -/
theorem GN.own (g : GN C N x y) (n : Nat) : pasN x n 0 4 = ohN y n 7 := (g.steps n).owner.1
theorem GN.own2 {y' : Nat → Int32} (g : GN C N x y) (g' : GN C N x y') (n : Nat) : ohN y n 7 = ohN y' n 7 := (g.own n).symm.trans (g'.own n)
end GU
theorem wrI_congr {m x x' : Nat → Nat → Int32} {a : Nat} (h : ∀ r, r < 7 → ∀ j, x r j = x' r j) : wrI m a x = wrI m a x' := by
  funext a' j
  unfold wrI
  by_cases q : a ≤ a' ∧ a' < a + 7
  · rw [if_pos q, if_pos q]; exact h _ (by omega) j
  · rw [if_neg q, if_neg q]
theorem k_bec {d : Nat} {m x : Nat → Nat → Int32} : jm_K (d + 1) md_X2_become [.ref 208, .ref 200] (jm_mk (wrI m 208 x)) = some (none, jm_mk (wrI m 208 (becI x (vwI m 200)))) := by
  rw [k_X2_become (a := 208) (b := 200) (by decide) (by decide) (by decide), wrI_wrI]
  refine congrArg (fun q => some (none, jm_mk q)) (wrI_congr (fun r hr j => ?_))
  unfold becI
  rw [vwI_wrI r hr, vwI_wrI 0 (by decide), vwI_d (show djI 208 200 from Or.inr (by decide)) r hr, vwI_d (show djI 208 200 from Or.inr (by decide)) 0 (by decide)]
theorem Api.try {mc mm : jm_Md} {As : List Value} (h : ∀ m, Rel m → ∃ (r : Value) (x : Nat → Nat → Int32), jm_K 12 mc (.ref 0 :: As) (jm_mk m) = some (some r, jm_mk (wrI m 208 x)) ∧ ∀ m1 : Nat → Nat → Int32, (∀ a, ¬ (208 ≤ a ∧ a < 215) → m1 a = m a) → ∃ z y : Nat → Int32, jm_K 12 mm (.ref 217 :: As) (jm_mk (wrA (wrA m1 226 (m 226)) 221 (m 221))) = some (some r, jm_mk (wrA (wrA m1 226 z) 221 y)) ∧ ∀ j, j < 44 → y j = m 221 j) : Api mc mm As := by
  refine Api.ask (fun m hR => ?_)
  obtain ⟨r, x, h1, h2⟩ := h m hR
  obtain ⟨z, y, h3, h4⟩ := h2 (wrI m 208 x) (fun a ha => wrI_o ha)
  refine ⟨r, wrI m 208 x, wrA (wrA (wrI m 208 x) 226 z) 221 y, h1, ?_, ?_⟩
  · have e := wr2_self (m := wrI m 208 x)
    rw [wrI_o (show ¬ (208 ≤ 226 ∧ 226 < 215) by decide), wrI_o (show ¬ (208 ≤ 221 ∧ 221 < 215) by decide)] at e
    rw [e] at h3
    exact h3
  · exact AG.trans AG_wrI (AG_wr2 (fun j hj => by rw [h4 j hj, wrI_o (by decide)]))
/-- nothing is tried -/
theorem Api.no {mc mm : jm_Md} {As : List Value} {m : Nat → Nat → Int32} {r : Value} (h1 : jm_K 12 mc (.ref 0 :: As) (jm_mk m) = some (some r, jm_mk m)) (h2 : ∀ m' : Nat → Nat → Int32, (∀ j, m' 217 j = m 217 j) → (∀ j, m' 221 j = m 221 j) → jm_K 12 mm (.ref 217 :: As) (jm_mk m') = some (some r, jm_mk m')) : ∃ (r : Value) (x : Nat → Nat → Int32), jm_K 12 mc (.ref 0 :: As) (jm_mk m) = some (some r, jm_mk (wrI m 208 x)) ∧ ∀ m1 : Nat → Nat → Int32, (∀ a, ¬ (208 ≤ a ∧ a < 215) → m1 a = m a) → ∃ z y : Nat → Int32, jm_K 12 mm (.ref 217 :: As) (jm_mk (wrA (wrA m1 226 (m 226)) 221 (m 221))) = some (some r, jm_mk (wrA (wrA m1 226 z) 221 y)) ∧ ∀ j, j < 44 → y j = m 221 j := by
  refine ⟨r, vwI m 208, by rw [wrI_self]; exact h1, fun m1 hm => ⟨m 226, m 221, ?_, fun _ _ => rfl⟩⟩
  refine h2 _ (fun j => ?_) (fun j => wrA_at)
  rw [wrA_ne (by decide), wrA_ne (by decide), hm 217 (by decide)]
