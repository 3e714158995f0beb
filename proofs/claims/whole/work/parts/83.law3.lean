/-! the law: one call on each side -/
def lw_dA (q n : Nat) : Prop := ∀ j, j < n → decode code (q + 5 * j) = .ok (.aload_n 0, 1) ∧ decode code (q + 5 * j + 1) = .ok (.iload_n 3, 1) ∧ decode code (q + 5 * j + 2) = .ok (.iconst ((j : Int) + 1), 1) ∧ decode code (q + 5 * j + 3) = .ok (.iadd, 1) ∧ decode code (q + 5 * j + 4) = .ok (.iaload, 1)
def lw_as (xs : Nat → Int32) (i n : Nat) : List Int32 := (List.range n).map (fun j => xs (i + 1 + j))
def lw_D (T n k1 k2 : Nat) (o : Int) : Prop := decode code T = .ok (.aload_n 1, 1) ∧ lw_dA (T + 1) n ∧ decode code (T + 1 + 5 * n) = .ok (.invokevirtual k1, 3) ∧ decode code (T + 4 + 5 * n) = .ok (.aload_n 2, 1) ∧ lw_dA (T + 5 + 5 * n) n ∧ decode code (T + 5 + 10 * n) = .ok (.invokevirtual k2, 3) ∧ decode code (T + 8 + 10 * n) = .ok (.if_icmp .eq o, 3) ∧ ((T + 8 + 10 * n : Nat) : Int) + o = (1426 : Nat)
def lw_DL (T n k1 k2 : Nat) (o : Int) : Prop := decode code T = .ok (.aload_n 1, 1) ∧ lw_dA (T + 1) n ∧ decode code (T + 1 + 5 * n) = .ok (.invokevirtual k1, 3) ∧ decode code (T + 4 + 5 * n) = .ok (.aload_n 2, 1) ∧ lw_dA (T + 5 + 5 * n) n ∧ decode code (T + 5 + 10 * n) = .ok (.invokevirtual k2, 3) ∧ decode code (T + 8 + 10 * n) = .ok (.lcmp, 1) ∧ decode code (T + 9 + 10 * n) = .ok (.ifCond .eq o, 3) ∧ ((T + 9 + 10 * n : Nat) : Int) + o = (1426 : Nat)
section LW
variable {p : Program} {l : Launch} {e : Env} {s : State} {m : MethodId} {below : List Frame} {meth : Method} {c : Code} {H : Heap} {locs : List Loc} {Q : State → Prop} {θ : jm_T} {b : Nat} {pc : Nat} {ls : Array Slot} {rest : List Value} {L i : Nat} {xs : Nat → Int32}
theorem lw_args (C : lw_C θ p s m c b) (hX : va_X b L xs s s.heap) (hbl : b < s.heap.size) (hL : L ≤ 3072) (hi : i + 6 ≤ L) (hl : lv_has ls 4 [(0, .ref b), (1, .ref θ.1), (2, .ref (θ.1 + 217)), (3, .int (nI i))]) (h2 : va_S (jm_F θ) s.heap H locs) {q n : Nat} (hn : n ≤ 5) (hd : lw_dA q n) (kk : W p l e room_1 s m #[Value.ref b] below meth c H locs 600000 7302250 Q (F0 m (q + 5 * n) ls (((lw_as xs i n).map Value.int).reverse ++ rest))) : ∀ f k, k + f = n → W p l e room_1 s m #[Value.ref b] below meth c H locs 600000 7302250 Q (F0 m (q + 5 * k) ls (((lw_as xs i k).map Value.int).reverse ++ rest)) := by
  have hbA : ¬ jm_F θ b := by
    show ¬ θ.1 ≤ b
    rw [C.2.2.2.2.2.2]
    omega
  intro f
  induction f with
  | zero =>
    intro k hk
    rw [show k = n by omega]
    exact kk
  | succ f ih =>
    intro k hk
    obtain ⟨d0, d1, d2, d3, d4⟩ := hd k (by omega)
    refine lv_aload_n C.1 C.2.1 d0 rfl (lv_at hl 0 rfl) ?_
    refine lv_iload_n C.1 C.2.1 d1 rfl (lv_at hl 3 rfl) ?_
    refine lv_iconst (v := nI (k + 1)) C.1 C.2.1 d2 rfl ?_
    refine lv_iadd C.1 C.2.1 d3 ?_
    rw [nI_add]
    refine va_sld C.1 C.2.1 hX hbl hbA h2 (vp_in_nI (by omega) (by omega)) d4 ?_
    rw [nI_clamp (by omega)]
    have := ih (k + 1) (by omega)
    have e : ((lw_as xs i (k + 1)).map Value.int).reverse ++ rest = .int (xs (i + (k + 1))) :: (((lw_as xs i k).map Value.int).reverse ++ rest) := by
      unfold lw_as
      rw [List.range_succ, List.map_append, List.map_append, List.reverse_append]
      show Value.int (xs (i + 1 + k)) :: _ = _
      rw [show i + 1 + k = i + (k + 1) by omega]
      rfl
    rw [e] at this
    exact this
theorem lw_len {n : Nat} : ((lw_as xs i n).map Value.int).length = n := by
  unfold lw_as
  simp
theorem lw_cv {n : Nat} : ((lw_as xs i n).map Value.int).map (jm_cv θ) = (lw_as xs i n).map Value.int := by
  rw [List.map_map]
  rfl
theorem lw_jargs {a : Nat} : ∀ (xs : List Int32), (jm_args (.ref a :: xs.map Value.int)).length = xs.length + 1 := by
  have key : ∀ xs : List Int32, (jm_args (xs.map Value.int)).length = xs.length := by
    intro xs
    induction xs with
    | nil => rfl
    | cons x r ih =>
      show (jm_args (r.map Value.int)).length + 1 = r.length + 1
      rw [ih]
  intro xs
  show (jm_args (xs.map Value.int)).length + 1 = xs.length + 1
  rw [key]
theorem lw_lenI {n : Nat} : (lw_as xs i n).length = n := by
  unfold lw_as
  simp
theorem lw_case (C : lw_C θ p s m c b) (hX : va_X b L xs s s.heap) (hbl : b < s.heap.size) (hL : L ≤ 3072) (hi : i + 6 ≤ L) (hl : lv_has ls 4 [(0, .ref b), (1, .ref θ.1), (2, .ref (θ.1 + 217)), (3, .int (nI i))]) {T n k1 k2 : Nat} {o : Int} {mc mm : jm_Md} {mem : Nat → Nat → Int32} (hR : Rel mem) (hn : n ≤ 5) (hD : lw_D T n k1 k2 o) (hk1 : k1 < 1000) (hk2 : k2 < 1000) (m1 : (11000 + k1, mc, n, 0) ∈ jm_mthT) (m2 : (11000 + k2, mm, n, 0) ∈ jm_mthT) (c6 : mc.2.2.2.2 = 6) (c7 : mm.2.2.2.2 = 7) (r1 : mc.2.2.2.1 = some .int) (l1 : n + 1 ≤ mc.2.2.1) (l2 : n + 1 ≤ mm.2.2.1) (api : Api mc mm ((lw_as xs i n).map Value.int)) (h1 : jm_H θ (jm_mk mem) H) (h2 : va_S (jm_F θ) s.heap H locs)
    (kk : ∀ (mem' : Nat → Nat → Int32) (H1 : Heap) (locs1 : List Loc), Rel mem' → jm_H θ (jm_mk mem') H1 → va_S (jm_F θ) s.heap H1 locs1 → W p l e room_1 s m #[Value.ref b] below meth c H1 locs1 600000 7302250 Q (F0 m 1426 ls [])) : W p l e room_1 s m #[Value.ref b] below meth c H locs 600000 7302250 Q (F0 m T ls []) := by
  obtain ⟨d0, d1, d2, d3, d4, d5, d6, d7⟩ := hD
  obtain ⟨r, me1, me2, K1, K2, hR2⟩ := api mem hR
  obtain ⟨v, hv⟩ := (jm_K_rt K1).1 r1
  cases hv
  refine lv_aload_n C.1 C.2.1 d0 rfl (lv_at hl 1 rfl) ?_
  refine lw_args (rest := [.ref θ.1]) C hX hbl hL hi hl h2 hn d1 ?_ n 0 (Nat.zero_add _)
  have e1 := lw_inv (l := l) (e := e) (below := below) (meth := meth) (Q := Q) (pc := T + 1 + 5 * n) (ls := ls) (rest := []) (cells := 600000) (slots := 7302250) C m1 (by omega) (a := 0) (show 0 < 230 by decide) (by rw [c6]; decide) K1 rfl (by rw [lw_jargs, lw_lenI]; exact l1) lw_len (Nat.le_of_ble_eq_true rfl) (by rw [show (11000 + k1) % 1000 = k1 by omega]; exact d2) hl.1 (by decide) h1 h2
  rw [lw_cv] at e1
  refine e1 (fun H1 locs1 h1 h2 => ?_)
  refine lv_aload_n C.1 C.2.1 (by rw [show T + 1 + 5 * n + 3 = T + 4 + 5 * n by omega]; exact d3) rfl (lv_at hl 2 rfl) ?_
  rw [show T + 1 + 5 * n + 3 + 1 = T + 5 + 5 * n by omega]
  refine lw_args (rest := [.ref (θ.1 + 217), .int v]) C hX hbl hL hi hl h2 hn d4 ?_ n 0 (Nat.zero_add _)
  have e2 := lw_inv (l := l) (e := e) (below := below) (meth := meth) (Q := Q) (pc := T + 5 + 5 * n + 5 * n) (ls := ls) (rest := [.int v]) (cells := 600000) (slots := 7302250) C m2 (by omega) (a := 217) (show 217 < 230 by decide) (by rw [c7]; decide) K2 rfl (by rw [lw_jargs, lw_lenI]; exact l2) lw_len (Nat.le_of_ble_eq_true rfl) (by rw [show (11000 + k2) % 1000 = k2 by omega, show T + 5 + 5 * n + 5 * n = T + 5 + 10 * n by omega]; exact d5) hl.1 (by decide) h1 h2
  rw [lw_cv] at e2
  refine e2 (fun H1 locs1 h1 h2 => ?_)
  rw [show T + 5 + 5 * n + 5 * n + 3 = T + 8 + 10 * n by omega]
  exact lv_icmp_eq (tgt := 1426) C.1 C.2.1 d6 d7 (fun _ => kk me2 H1 locs1 hR2 h1 h2) (fun h => absurd rfl h)
theorem lw_caseL (C : lw_C θ p s m c b) (hX : va_X b L xs s s.heap) (hbl : b < s.heap.size) (hL : L ≤ 3072) (hi : i + 6 ≤ L) (hl : lv_has ls 4 [(0, .ref b), (1, .ref θ.1), (2, .ref (θ.1 + 217)), (3, .int (nI i))]) {T n k1 k2 : Nat} {o : Int} {mc mm : jm_Md} {mem : Nat → Nat → Int32} (hR : Rel mem) (hn : n ≤ 5) (hD : lw_DL T n k1 k2 o) (hk1 : k1 < 1000) (hk2 : k2 < 1000) (m1 : (11000 + k1, mc, n, 0) ∈ jm_mthT) (m2 : (11000 + k2, mm, n, 0) ∈ jm_mthT) (c6 : mc.2.2.2.2 = 6) (c7 : mm.2.2.2.2 = 7) (r1 : mc.2.2.2.1 = some .long) (l1 : n + 1 ≤ mc.2.2.1) (l2 : n + 1 ≤ mm.2.2.1) (api : Api mc mm ((lw_as xs i n).map Value.int)) (h1 : jm_H θ (jm_mk mem) H) (h2 : va_S (jm_F θ) s.heap H locs)
    (kk : ∀ (mem' : Nat → Nat → Int32) (H1 : Heap) (locs1 : List Loc), Rel mem' → jm_H θ (jm_mk mem') H1 → va_S (jm_F θ) s.heap H1 locs1 → W p l e room_1 s m #[Value.ref b] below meth c H1 locs1 600000 7302250 Q (F0 m 1426 ls [])) : W p l e room_1 s m #[Value.ref b] below meth c H locs 600000 7302250 Q (F0 m T ls []) := by
  obtain ⟨d0, d1, d2, d3, d4, d5, d6, d8, d7⟩ := hD
  obtain ⟨r, me1, me2, K1, K2, hR2⟩ := api mem hR
  obtain ⟨v, hv⟩ := (jm_K_rt K1).2 r1
  cases hv
  refine lv_aload_n C.1 C.2.1 d0 rfl (lv_at hl 1 rfl) ?_
  refine lw_args (rest := [.ref θ.1]) C hX hbl hL hi hl h2 hn d1 ?_ n 0 (Nat.zero_add _)
  have e1 := lw_inv (l := l) (e := e) (below := below) (meth := meth) (Q := Q) (pc := T + 1 + 5 * n) (ls := ls) (rest := []) (cells := 600000) (slots := 7302250) C m1 (by omega) (a := 0) (show 0 < 230 by decide) (by rw [c6]; decide) K1 rfl (by rw [lw_jargs, lw_lenI]; exact l1) lw_len (Nat.le_of_ble_eq_true rfl) (by rw [show (11000 + k1) % 1000 = k1 by omega]; exact d2) hl.1 (by decide) h1 h2
  rw [lw_cv] at e1
  refine e1 (fun H1 locs1 h1 h2 => ?_)
  refine lv_aload_n C.1 C.2.1 (by rw [show T + 1 + 5 * n + 3 = T + 4 + 5 * n by omega]; exact d3) rfl (lv_at hl 2 rfl) ?_
  rw [show T + 1 + 5 * n + 3 + 1 = T + 5 + 5 * n by omega]
  refine lw_args (rest := [.ref (θ.1 + 217), .long v]) C hX hbl hL hi hl h2 hn d4 ?_ n 0 (Nat.zero_add _)
  have e2 := lw_inv (l := l) (e := e) (below := below) (meth := meth) (Q := Q) (pc := T + 5 + 5 * n + 5 * n) (ls := ls) (rest := [.long v]) (cells := 600000) (slots := 7302250) C m2 (by omega) (a := 217) (show 217 < 230 by decide) (by rw [c7]; decide) K2 rfl (by rw [lw_jargs, lw_lenI]; exact l2) lw_len (Nat.le_of_ble_eq_true rfl) (by rw [show (11000 + k2) % 1000 = k2 by omega, show T + 5 + 5 * n + 5 * n = T + 5 + 10 * n by omega]; exact d5) hl.1 (by decide) h1 h2
  rw [lw_cv] at e2
  refine e2 (fun H1 locs1 h1 h2 => ?_)
  rw [show T + 5 + 5 * n + 5 * n + 3 = T + 8 + 10 * n by omega]
  refine W.lcmp C.1 C.2.1 d6 ?_
  rw [show T + 8 + 10 * n + 1 = T + 9 + 10 * n by omega]
  exact lv_if_eq (tgt := 1426) C.1 C.2.1 d8 d7 (fun _ => kk me2 H1 locs1 hR2 h1 h2) (fun h => absurd ((lg_cmp_eq v v).mpr rfl) h)
end LW
