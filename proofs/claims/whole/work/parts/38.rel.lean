/-! an isle of the class and one of the reference: the same -/
def IV (y : Nat → Int32) (C N : Nat) (o : Option Nat) : Prop := (y 3 = nI C ∧ 1 ≤ C ∧ C ≤ 6) ∧ (y 4 = nI N ∧ 1 ≤ N ∧ N ≤ 6) ∧ (∃ p, 2 ≤ p ∧ p ≤ 24 ∧ y 0 = nI p) ∧ (∃ w, w ≤ 3 ∧ y 2 = nI w) ∧ (∃ s, s < 2 ^ N ∧ y 6 = nI s) ∧ (y 7 = ovI o ∧ ∀ b, o = some b → b < N) ∧
  ∀ b, b < N → (∃ k, 1 ≤ k ∧ k ≤ 5 ∧ y (14 + b) = nI k) ∧ (∃ f t, f ≤ t ∧ t ≤ 60 ∧ y (32 + b) = nI f ∧ y (20 + b) = nI t) ∧ (∃ p, 1 ≤ p ∧ p ≤ 9 ∧ y (26 + b) = nI p)
def IR (x : Nat → Nat → Int32) (y : Nat → Int32) (C N : Nat) : Prop := (x 0 0 = y 0 ∧ x 0 1 = y 1 ∧ x 0 2 = y 2 ∧ x 0 3 = y 5 ∧ x 0 4 = y 7 ∧ x 0 5 = y 3 ∧ x 0 6 = y 4 ∧ x 0 7 = y 6) ∧ (∀ c, c < C → x 1 c = y (8 + c)) ∧ ∀ b, b < N → x 2 b = y (14 + b) ∧ x 3 b = y (32 + b) ∧ x 4 b = y (20 + b) ∧ x 5 b = y (26 + b) ∧ x 6 b = y (38 + b)
theorem add0 (s : Int32) : s + nI 0 = s := Int32.add_zero s
theorem IV_p {y : Nat → Int32} {C N : Nat} {o : Option Nat} (h : IV y C N o) : ¬ y 0 = 0 ∧ nI 1 ≤ y 0 := by
  obtain ⟨p, h1, h2, h3⟩ := h.2.2.1
  rw [h3]
  exact ⟨nI_ne0 (by omega) (by omega), nI_le (by omega) (by omega)⟩
theorem lock_wat {x : Nat → Nat → Int32} {y : Nat → Int32} {C N : Nat} {k : Int32} (h : IR x y C N) : watI x k = watM y (y 5 + k) := by
  obtain ⟨⟨h0, h1, h2, h3, h4, h5, h6, h7⟩, -⟩ := h
  unfold watI watM
  rw [h0, h1, h3]
theorem lock_dry {x : Nat → Nat → Int32} {y : Nat → Int32} {C N : Nat} {k : Int32} (h : IR x y C N) (hC : C ≤ 6) : dryL (x 1) (watI x k) C 0 (nI 0) = dryMs y (watM y (y 5 + k)) C 0 (nI 0) := by
  rw [lock_wat h]
  exact dryL_congr (fun j h1 h2 => h.2.1 j (by omega))
theorem lock_sh {x : Nat → Nat → Int32} {y : Nat → Int32} {C N : Nat} {k : Int32} (h : IR x y C N) (hC : C ≤ 6) : dryMs y (watM y (y 5 + k)) C 0 (nI 0) = nI 0 ↔ shwL (x 1) (watI x k) C 0 = false := by
  rw [← lock_dry h hC, dry_shw (by omega)]
  simp
theorem jup_eq {f : Nat → Nat → Int32} {a j : Nat} {v : Int32} : jm_up f a j v a j = v := if_pos ⟨rfl, rfl⟩
theorem jup_ne {f : Nat → Nat → Int32} {a j a' j' : Nat} {v : Int32} (h : ¬ (a' = a ∧ j' = j)) : jm_up f a j v a' j' = f a' j' := if_neg h
section PS
variable {x : Nat → Nat → Int32} {y : Nat → Int32} {N : Nat} {sh : Bool} {o : Option Nat} {dr : Int32} {r j b i : Nat}
theorem pasI_s (h3 : j ≠ 3) (h4 : j ≠ 4) : pasI x N sh o 0 j = x 0 j := by
  unfold pasI
  rw [jup_ne (fun h => h3 h.2)]
  have e : ∀ v, jm_up (ofU x sh N) 0 4 v 0 j = x 0 j := fun v => by rw [jup_ne (fun h => h4 h.2), ofU_ne (by decide)]
  cases nwoI x N sh o with
  | none => exact e _
  | some b =>
    show jm_up (jm_up (ofU x sh N) 0 4 _) 6 b _ 0 j = _
    rw [jup_ne (fun h => by cases h.1), e]
theorem pasI_3 : pasI x N sh o 0 3 = x 0 3 + nI 1 := jup_eq
theorem pasI_4 : pasI x N sh o 0 4 = ovI (nwoI x N sh o) := by
  unfold pasI
  rw [jup_ne (fun h => by cases h.2)]
  cases nwoI x N sh o with
  | none => exact jup_eq
  | some b =>
    show jm_up (jm_up (ofU x sh N) 0 4 _) 6 b _ 0 4 = _
    rw [jup_ne (fun h => by cases h.1), jup_eq]
theorem pasI_r (h0 : r ≠ 0) (h6 : r ≠ 6) : pasI x N sh o r j = ofU x sh N r j := by
  unfold pasI
  rw [jup_ne (fun h => h0 h.1)]
  have e : ∀ v, jm_up (ofU x sh N) 0 4 v r j = ofU x sh N r j := fun v => jup_ne (fun h => h0 h.1)
  cases nwoI x N sh o with
  | none => exact e _
  | some b =>
    show jm_up (jm_up (ofU x sh N) 0 4 _) 6 b _ r j = _
    rw [jup_ne (fun h => h6 h.1), e]
theorem pasI_6 : pasI x N sh o 6 j = if nwoI x N sh o = some j then x 6 j + nI 1 else x 6 j := by
  unfold pasI
  rw [jup_ne (fun h => by cases h.1)]
  have e : ∀ v k, jm_up (ofU x sh N) 0 4 v 6 k = x 6 k := fun v k => by rw [jup_ne (fun h => by cases h.1), ofU_ne (by decide)]
  cases nwoI x N sh o with
  | none => rw [if_neg (fun h => by cases h)]; exact e _ _
  | some b =>
    show jm_up (jm_up (ofU x sh N) 0 4 _) 6 b _ 6 j = _
    by_cases q : j = b
    · subst q; rw [if_pos rfl, jup_eq, e]
    · rw [if_neg (fun h => q (by cases h; rfl)), jup_ne (fun h => q h.2), e]
theorem ohM_lo (h : i < 32) (h5 : i ≠ 5) (h7 : i ≠ 7) : ohM y N dr o i = y i := by
  unfold ohM
  rw [pk_un h5]
  have e : ∀ v, upd (yU y (FM y dr) N) 7 v i = y i := fun v => by rw [pk_un h7, yU_lo h]
  cases nwoM y N dr o with
  | none => exact e _
  | some b =>
    show upd (upd (yU y (FM y dr) N) 7 _) (38 + b) _ i = _
    rw [pk_un (by omega), e]
theorem ohM_5 : ohM y N dr o 5 = y 5 + nI 1 := pk_us
theorem ohM_7 : ohM y N dr o 7 = ovI (nwoM y N dr o) := by
  unfold ohM
  rw [pk_un (by decide)]
  cases nwoM y N dr o with
  | none => exact pk_us
  | some b =>
    show upd (upd (yU y (FM y dr) N) 7 _) (38 + b) _ 7 = _
    rw [pk_un (by omega), pk_us]
theorem ohM_off (hb : b < N) (hN : N ≤ 6) : ohM y N dr o (32 + b) = FM y dr b := by
  unfold ohM
  rw [pk_un (by omega)]
  have e : ∀ v, upd (yU y (FM y dr) N) 7 v (32 + b) = FM y dr b := fun v => by rw [pk_un (by omega), yU_at hb]
  cases nwoM y N dr o with
  | none => exact e _
  | some c =>
    show upd (upd (yU y (FM y dr) N) 7 _) (38 + c) _ (32 + b) = _
    rw [pk_un (by omega), e]
theorem ohM_hld (hb : b < N) (hN : N ≤ 6) : ohM y N dr o (38 + b) = if nwoM y N dr o = some b then y (38 + b) + nI 1 else y (38 + b) := by
  unfold ohM
  rw [pk_un (by omega)]
  have e : ∀ v c, upd (yU y (FM y dr) N) 7 v (38 + c) = y (38 + c) := fun v c => by rw [pk_un (by omega), yU_hi (by omega)]
  cases nwoM y N dr o with
  | none => rw [if_neg (fun h => by cases h)]; exact e _ _
  | some c =>
    show upd (upd (yU y (FM y dr) N) 7 _) (38 + c) _ (38 + b) = _
    by_cases q : b = c
    · subst q; rw [if_pos rfl, pk_us, e]
    · rw [if_neg (fun h => q (by cases h; rfl)), pk_un (by omega), e]
end PS
theorem nxtI_congr {f g : Nat → Int32} {N : Nat} {o : Option Nat} (h : ∀ b, b < N → f b = g b) (ho : ∀ b, o = some b → b < N) : nxtI f N o = nxtI g N o := by
  have e : frsL f N 0 = frsL g N 0 := frsL_congr (fun j h1 h2 => h j (by omega))
  cases o with
  | none => exact e
  | some b => show (if f b = nI 0 then some b else frsL f N 0) = (if g b = nI 0 then some b else frsL g N 0); rw [h b (ho b rfl), e]
/-- both hours are one -/
theorem lock_hour {x : Nat → Nat → Int32} {y : Nat → Int32} {C N : Nat} {o : Option Nat} {sh : Bool} {dr : Int32} (hv : IV y C N o) (hr : IR x y C N) (hs : dr = nI 0 ↔ sh = false) : nwoI x N sh o = nwoM y N dr o ∧ IR (pasI x N sh o) (ohM y N dr o) C N ∧ IV (ohM y N dr o) C N (nwoM y N dr o) := by
  obtain ⟨⟨v1, v2, v3⟩, ⟨v4, v5, v6⟩, ⟨p, v7, v8, v9⟩, ⟨w, v10, v11⟩, ⟨s, v12, v13⟩, ⟨v14, v15⟩, vb⟩ := hv
  obtain ⟨⟨h0, h1, h2, h3, h4, h5, h6, h7⟩, hc, hb⟩ := hr
  have hof : ∀ b, b < N → ofI x sh b = FM y dr b ∧ ∃ f t, f ≤ t ∧ t ≤ 60 ∧ FM y dr b = nI f ∧ y (20 + b) = nI t := by
    intro b hbN
    obtain ⟨⟨k, k1, k2, k3⟩, ⟨f, t, f1, f2, f3, f4⟩, ⟨q, q1, q2, q3⟩⟩ := vb b hbN
    obtain ⟨b2, b3, b4, b5, b6⟩ := hb b hbN
    have hw := way_fin k (by omega) k1 q (by omega) w (by omega) sh
    have e1 : wayI x b sh = wayF (nI k) (nI q) (nI w) sh := by rw [wayI_F, b2, b5, h2, k3, q3, v11]
    have e2 : wayM y b dr = wayF (nI k) (nI q) (nI w) sh := by rw [wayM_G, wayG_H hs, k3, q3, v11]; exact hw.1
    have e3 : sntI x b = sntM y b := by unfold sntI sntM; rw [h7]
    have hq := of_eq (f := f) (t := t) (w := (wayF (nI k) (nI q) (nI w) sh).toNatClampNeg) (s := sntM y b) f1 f2 hw.2.2
    rw [← hw.2.1] at hq
    obtain ⟨g, g1, g2⟩ := hq.2
    have e4 : ofI x sh b = ofC (nI f) (nI t) (wayF (nI k) (nI q) (nI w) sh) (sntM y b) := by rw [ofI_C, b3, b4, e1, e3, f3, f4]
    have e5 : FM y dr b = ofD (nI f) (nI t) (wayF (nI k) (nI q) (nI w) sh) (sntM y b) := by show ofM y dr (sntM y b) b = _; rw [ofM_D, e2, f3, f4]
    exact ⟨by rw [e4, e5, hq.1], g, t, g1, f2, by rw [e5, hq.1, g2], f4⟩
  have hno : nwoI x N sh o = nwoM y N dr o := by
    unfold nwoI nwoM
    cases sh with
    | false => rw [if_neg (by decide), if_pos (hs.mpr rfl)]
    | true =>
      rw [if_pos rfl, if_neg (fun z => by cases hs.mp z)]
      refine nxtI_congr (fun b hbN => ?_) v15
      rw [ofU_lt hbN, yU_at hbN]
      exact (hof b hbN).1
  have hno2 : ∀ b, nwoM y N dr o = some b → b < N := by
    intro b hq
    unfold nwoM at hq
    by_cases z : dr = nI 0
    · rw [if_pos z] at hq; cases hq
    · rw [if_neg z] at hq; exact nxtI_lt v15 b hq
  refine ⟨hno, ⟨⟨?_, ?_, ?_, ?_, ?_, ?_, ?_, ?_⟩, ?_, ?_⟩, ⟨?_, v2, v3⟩, ⟨?_, v5, v6⟩, ⟨p, v7, v8, ?_⟩, ⟨w, v10, ?_⟩, ⟨s, v12, ?_⟩, ⟨ohM_7, hno2⟩, ?_⟩
  · rw [pasI_s (by decide) (by decide), ohM_lo (by decide) (by decide) (by decide), h0]
  · rw [pasI_s (by decide) (by decide), ohM_lo (by decide) (by decide) (by decide), h1]
  · rw [pasI_s (by decide) (by decide), ohM_lo (by decide) (by decide) (by decide), h2]
  · rw [pasI_3, ohM_5, h3]
  · rw [pasI_4, ohM_7, hno]
  · rw [pasI_s (by decide) (by decide), ohM_lo (by decide) (by decide) (by decide), h5]
  · rw [pasI_s (by decide) (by decide), ohM_lo (by decide) (by decide) (by decide), h6]
  · rw [pasI_s (by decide) (by decide), ohM_lo (by decide) (by decide) (by decide), h7]
  · intro c hcC
    rw [pasI_r (by decide) (by decide), ofU_ne (by decide), ohM_lo (by omega) (by omega) (by omega), hc c hcC]
  · intro b hbN
    obtain ⟨b2, b3, b4, b5, b6⟩ := hb b hbN
    refine ⟨?_, ?_, ?_, ?_, ?_⟩
    · rw [pasI_r (by decide) (by decide), ofU_ne (by decide), ohM_lo (by omega) (by omega) (by omega), b2]
    · rw [pasI_r (by decide) (by decide), ofU_lt hbN, ohM_off hbN v6]; exact (hof b hbN).1
    · rw [pasI_r (by decide) (by decide), ofU_ne (by decide), ohM_lo (by omega) (by omega) (by omega), b4]
    · rw [pasI_r (by decide) (by decide), ofU_ne (by decide), ohM_lo (by omega) (by omega) (by omega), b5]
    · rw [pasI_6, ohM_hld hbN v6, hno, b6]
  · rw [ohM_lo (by decide) (by decide) (by decide), v1]
  · rw [ohM_lo (by decide) (by decide) (by decide), v4]
  · rw [ohM_lo (by decide) (by decide) (by decide), v9]
  · rw [ohM_lo (by decide) (by decide) (by decide), v11]
  · rw [ohM_lo (by decide) (by decide) (by decide), v13]
  · intro b hbN
    obtain ⟨⟨k, k1, k2, k3⟩, -, ⟨q, q1, q2, q3⟩⟩ := vb b hbN
    obtain ⟨-, f, t, f1, f2, f3, f4⟩ := hof b hbN
    exact ⟨⟨k, k1, k2, by rw [ohM_lo (by omega) (by omega) (by omega), k3]⟩, ⟨f, t, f1, f2, by rw [ohM_off hbN v6, f3], by rw [ohM_lo (by omega) (by omega) (by omega), f4]⟩, ⟨q, q1, q2, by rw [ohM_lo (by omega) (by omega) (by omega), q3]⟩⟩
