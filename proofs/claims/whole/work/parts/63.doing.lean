/-! send, wind, sand, speed -/
section KP
variable {m : Nat → Nat → Int32} {e k : Nat}
theorem kpC_o {a : Nat} (h : a ≠ 15) (h2 : ¬ (17 + 7 * e ≤ a ∧ a < 24 + 7 * e)) : kpC m e k a = m a := by
  unfold kpC
  rw [jupr h, jupr h]
  funext j
  unfold wrI
  rw [if_neg (by omega)]
theorem kpC_151 : kpC m e k 15 1 = nI ((e + 1) % 24) := by
  unfold kpC
  rw [jup_ne (by decide), jup_eq]
theorem kpC_152 : kpC m e k 15 2 = nI (mn24 k) := by
  unfold kpC
  rw [jup_eq]
theorem kpC_n {r : Nat} (hr : r < 7) : kpC m e k (17 + 7 * e + r) = becI (vwI m (17 + 7 * e)) (vwI m 200) r := by
  unfold kpC
  rw [jupr (by omega), jupr (by omega)]
  funext j
  exact wrI_r r hr
theorem kpC_hi {a : Nat} (he : e < 24) (h : 185 ≤ a) : kpC m e k a = m a := kpC_o (by omega) (by omega)
theorem noM_o {a : Nat} (h : a ≠ 217) (h2 : a ≠ 225) : noM m k a = m a := by
  unfold noM
  rw [wrA_ne h2, jupr h]
theorem noM_7 {j : Nat} (h : j ≠ 17) : noM m k 217 j = m 217 j := by
  unfold noM
  rw [wrA_ne (by decide), jup_ne (fun q => h q.2)]
theorem noM_17 : noM m k 217 17 = nI (mn24 k) := by
  unfold noM
  rw [wrA_ne (by decide), jup_eq]
theorem noM_225 {j : Nat} : noM m k 225 j = noG k (m 221) (m 225) j := by
  unfold noM
  rw [wrA_at]
end KP
theorem Rel.doing {m : Nat → Nat → Int32} {e k C N r j jy : Nat} {v : Int32} (hR : Rel m) (he : e < 24) (hk : k ≤ 24) (h15 : m 15 1 = nI e) (h25 : m 15 2 = nI k) (hth : m 217 4 = nI 1) (hr : r < 7) (g' : GN C N (jm_up (vwI m 200) r j v) (upd (m 221) jy v)) : Rel (jm_up (noM (jm_up (kpC m e k) (200 + r) j v) k) 221 jy v) := by
  have lo : ∀ a, a < 200 → jm_up (noM (jm_up (kpC m e k) (200 + r) j v) k) 221 jy v a = kpC m e k a := fun a ha => by rw [jupr (by omega), noM_o (by omega) (by omega), jupr (by omega)]
  have hi : ∀ a, 207 ≤ a → a ≠ 217 → a ≠ 225 → a ≠ 221 → jm_up (noM (jm_up (kpC m e k) (200 + r) j v) k) 221 jy v a = m a := fun a ha h1 h2 h3 => by rw [jupr (by omega), noM_o (by omega) (by omega), jupr (by omega), kpC_hi he (by omega)]
  refine Rel.act hR he hk h15 h25 hth g' (fun a h1 h2 h3 h4 h5 h6 h7 => ?_) (fun j' hj => ?_) ?_ ?_ ?_ (fun r' hr' => ?_) (fun j' hj' => ?_) (fun a h1 h2 h3 => ?_) (fun r' hr' => ?_) (fun j' => ?_)
  · by_cases q : a < 200
    · rw [lo a q, kpC_o (by omega) (by omega)]
    · exact hi a (by omega) h4 h6 h5
  · rw [jupr (by decide), noM_7 hj, jupr (by omega), kpC_hi he (by decide)]
  · rw [jupr (by decide), noM_17]
  · rw [lo 15 (by decide), kpC_151]
  · rw [lo 15 (by decide), kpC_152]
  · rw [jupr (by omega), noM_o (by omega) (by omega)]
    funext j'
    by_cases q : r' = r ∧ j' = j
    · obtain ⟨rfl, rfl⟩ := q
      rw [jup_eq, jup_eq]
    · rw [jup_ne (fun h => q ⟨by omega, h.2⟩), jup_ne q, kpC_hi he (by omega)]
      rfl
  · by_cases q : j' = jy
    · subst q; rw [jup_eq, pk_us]
    · rw [jup_ne (fun h => q h.2), pk_un q, noM_o (by decide) (by decide), jupr (by omega), kpC_hi he (by decide)]
  · rw [lo a (by omega), kpC_o (by omega) (by omega)]
  · rw [lo _ (by omega), kpC_n hr']
  · rw [jupr (by decide), noM_225, jupr (by omega), jupr (by omega), kpC_hi he (by decide), kpC_hi he (by decide)]
theorem Rel.ek {m : Nat → Nat → Int32} (hR : Rel m) : ∃ e k, e < 24 ∧ k ≤ 24 ∧ m 15 1 = nI e ∧ m 15 2 = nI k ∧ m 217 17 = nI k := by
  obtain ⟨-, -, -, -, ⟨e, k, h1, h2, h3, h4, h5, -⟩, -⟩ := hR
  exact ⟨e, k, h1, h2, h3, h4, h5⟩
theorem api_wind (n : Int32) : Api md_X6_wind md_X7_wind [.int n] := by
  intro m hR
  obtain ⟨C, N, hC6, hN6, c6, m4, c5, m3, hcase⟩ := hR.isle
  have hI : jm_ia 200 = true := by decide
  obtain ⟨e, k, he, hk, h15, h25, h17⟩ := hR.ek
  rcases hcase with ⟨q0, q1, q2⟩ | ⟨q0, q2, g⟩
  · subst q0
    refine Api.bad hR (r := .int (-1000002)) ?_ ?_
    · show jm_R 12 md_X6_wind 0 [.ref 0, .int n, .null] [] _ = _
      simp only [e_X6_wind_0, e_X6_wind_1, e_X6_wind_4, e_X6_wind_7, e_X6_wind_10, e_X6_wind_12, e_X6_wind_13, e_X6_wind_14, e_X6_wind_15, e_X6_wind_16, e_X6_wind_19, e_X6_wind_22, e_X6_wind_24, e_X6_wind_25, e_X6_wind_26, e_X6_wind_29, e_X6_wind_30, e_X6_wind_33, e_X6_wind_36, e_X6_wind_37, e_X6_wind_40, e_X6_wind_43, e_X6_wind_44, e_X6_wind_45, e_X6_wind_48, e_X6_wind_49, e_X6_wind_52, e_X6_wind_53, k_X2_hasBoat hI, k_X2_stands hI, k_X2_hasCell hI, c6, c5, k_X6_within, jm_bd_v, jm_bd_0, bv1, if_false, if_true, not_false_eq_true, not_true_eq_false, nI_le (Nat.le_refl 0) (show 0 < 2 ^ 31 by decide)]
    · show jm_R 12 md_X7_wind 0 [.ref 217, .int n, .null] [] _ = _
      simp only [e_X7_wind_0, e_X7_wind_1, e_X7_wind_4, e_X7_wind_7, e_X7_wind_9, e_X7_wind_10, e_X7_wind_11, e_X7_wind_12, e_X7_wind_13, e_X7_wind_16, e_X7_wind_19, e_X7_wind_22, e_X7_wind_24, e_X7_wind_25, e_X7_wind_26, e_X7_wind_29, e_X7_wind_30, e_X7_wind_33, e_X7_wind_34, e_X7_wind_35, e_X7_wind_36, e_X7_wind_37, e_X7_wind_40, e_X7_wind_41, e_X7_wind_42, e_X7_wind_43, e_X7_wind_44, q2, jm_bd_v, jm_bd_0, bv1, if_false, if_true, not_false_eq_true, not_true_eq_false]
  · have hst := stN q0 hN6
    have hth := thereOf q2
    by_cases hn : ¬ n < nI 0 ∧ ¬ nI 3 < n
    · obtain ⟨w, -, hw, rfl⟩ := rg_of hn (by omega) (by omega)
      have ew : m 200 2 = m 221 2 := by obtain ⟨o, hv, hr⟩ := g; exact hr.1.2.2.1
      refine ⟨.int (m 200 2), jm_up (kpC m e k) (200 + 0) 2 (nI w), jm_up (noM (jm_up (kpC m e k) (200 + 0) 2 (nI w)) k) 221 2 (nI w), ?_, ?_, hR.doing he hk h15 h25 q2 (by decide) (g.wnd hw)⟩
      · show jm_R 12 md_X6_wind 0 [.ref 0, .int (nI w), .null] [] _ = _
        simp only [e_X6_wind_0, e_X6_wind_1, e_X6_wind_4, e_X6_wind_7, e_X6_wind_10, e_X6_wind_12, e_X6_wind_13, e_X6_wind_14, e_X6_wind_15, e_X6_wind_16, e_X6_wind_19, e_X6_wind_22, e_X6_wind_24, e_X6_wind_25, e_X6_wind_26, e_X6_wind_29, e_X6_wind_30, e_X6_wind_33, e_X6_wind_36, e_X6_wind_37, e_X6_wind_40, e_X6_wind_43, e_X6_wind_44, e_X6_wind_45, e_X6_wind_48, e_X6_wind_49, e_X6_wind_52, e_X6_wind_53, k_X2_hasBoat hI, k_X2_stands hI, k_X2_hasCell hI, c6, c5, k_X6_within, jm_bd_v, jm_bd_0, bv1, if_false, if_true, not_false_eq_true, not_true_eq_false, hst, if_pos hn, k_X0_keep he hk h15 h25, kpC_hi he (show 185 ≤ 200 by decide)]
      · show jm_R 12 md_X7_wind 0 [.ref 217, .int (nI w), .null] [] _ = _
        have r17 : ∀ j, jm_up (kpC m e k) (200 + 0) 2 (nI w) 217 j = m 217 j := fun j => by rw [jupr (by decide), kpC_hi he (by decide)]
        have r21 : jm_up (kpC m e k) (200 + 0) 2 (nI w) 221 = m 221 := by rw [jupr (by decide), kpC_hi he (by decide)]
        simp only [e_X7_wind_0, e_X7_wind_1, e_X7_wind_4, e_X7_wind_7, e_X7_wind_9, e_X7_wind_10, e_X7_wind_11, e_X7_wind_12, e_X7_wind_13, e_X7_wind_16, e_X7_wind_19, e_X7_wind_22, e_X7_wind_24, e_X7_wind_25, e_X7_wind_26, e_X7_wind_29, e_X7_wind_30, e_X7_wind_33, e_X7_wind_34, e_X7_wind_35, e_X7_wind_36, e_X7_wind_37, e_X7_wind_40, e_X7_wind_41, e_X7_wind_42, e_X7_wind_43, e_X7_wind_44, in_0_3, jm_bd_v, jm_bd_0, bv1, if_false, if_true, not_false_eq_true, not_true_eq_false, r17, hth, if_pos hn, k_X7_note hk ((r17 17).trans h17), show (2 : Nat) < 44 by decide, noM_o (show (221 : Nat) ≠ 217 by decide) (show (221 : Nat) ≠ 225 by decide), r21, ew]
    · refine Api.bad hR (r := .int (-1000001)) ?_ ?_
      · show jm_R 12 md_X6_wind 0 [.ref 0, .int n, .null] [] _ = _
        simp only [e_X6_wind_0, e_X6_wind_1, e_X6_wind_4, e_X6_wind_7, e_X6_wind_10, e_X6_wind_12, e_X6_wind_13, e_X6_wind_14, e_X6_wind_15, e_X6_wind_16, e_X6_wind_19, e_X6_wind_22, e_X6_wind_24, e_X6_wind_25, e_X6_wind_26, e_X6_wind_29, e_X6_wind_30, e_X6_wind_33, e_X6_wind_36, e_X6_wind_37, e_X6_wind_40, e_X6_wind_43, e_X6_wind_44, e_X6_wind_45, e_X6_wind_48, e_X6_wind_49, e_X6_wind_52, e_X6_wind_53, k_X2_hasBoat hI, k_X2_stands hI, k_X2_hasCell hI, c6, c5, k_X6_within, jm_bd_v, jm_bd_0, bv1, if_false, if_true, not_false_eq_true, not_true_eq_false, hst, if_neg hn]
      · show jm_R 12 md_X7_wind 0 [.ref 217, .int n, .null] [] _ = _
        simp only [e_X7_wind_0, e_X7_wind_1, e_X7_wind_4, e_X7_wind_7, e_X7_wind_9, e_X7_wind_10, e_X7_wind_11, e_X7_wind_12, e_X7_wind_13, e_X7_wind_16, e_X7_wind_19, e_X7_wind_22, e_X7_wind_24, e_X7_wind_25, e_X7_wind_26, e_X7_wind_29, e_X7_wind_30, e_X7_wind_33, e_X7_wind_34, e_X7_wind_35, e_X7_wind_36, e_X7_wind_37, e_X7_wind_40, e_X7_wind_41, e_X7_wind_42, e_X7_wind_43, e_X7_wind_44, in_0_3, jm_bd_v, jm_bd_0, bv1, if_false, if_true, not_false_eq_true, not_true_eq_false, hth, if_neg hn]
theorem api_speed (b n : Int32) : Api md_X6_speed md_X7_speed [.int b, .int n] := by
  intro m hR
  obtain ⟨C, N, hC6, hN6, c6, m4, c5, m3, hcase⟩ := hR.isle
  have hI : jm_ia 200 = true := by decide
  obtain ⟨e, k, he, hk, h15, h25, h17⟩ := hR.ek
  by_cases hb : ¬ b < nI 0 ∧ ¬ nI N ≤ b
  · by_cases hn : ¬ n < nI 1 ∧ ¬ nI 9 < n
    · obtain ⟨j, hj, rfl⟩ := ix_of hb (by omega)
      obtain ⟨p, hp1, hp9, rfl⟩ := rg_of hn (by omega) (by omega)
      rcases hcase with ⟨q, -⟩ | ⟨-, q2, g⟩
      · omega
      have ew : m 205 j = m 221 (26 + j) := by obtain ⟨o, hv, hr⟩ := g; exact (hr.2.2 j hj).2.2.2.1
      have hj6 : j < 6 := by omega
      have h26 : 26 + j < 44 := by omega
      refine ⟨.int (m 205 j), jm_up (kpC m e k) (200 + 5) j (nI p), jm_up (noM (jm_up (kpC m e k) (200 + 5) j (nI p)) k) 221 (26 + j) (nI p), ?_, ?_, hR.doing he hk h15 h25 q2 (by decide) (g.spd hj hp1 hp9)⟩
      · show jm_R 12 md_X6_speed 0 [.ref 0, .int (nI j), .int (nI p), .null] [] _ = _
        simp only [e_X6_speed_0, e_X6_speed_1, e_X6_speed_4, e_X6_speed_5, e_X6_speed_8, e_X6_speed_11, e_X6_speed_12, e_X6_speed_13, e_X6_speed_15, e_X6_speed_18, e_X6_speed_21, e_X6_speed_23, e_X6_speed_24, e_X6_speed_25, e_X6_speed_28, e_X6_speed_29, e_X6_speed_32, e_X6_speed_35, e_X6_speed_36, e_X6_speed_39, e_X6_speed_42, e_X6_speed_43, e_X6_speed_44, e_X6_speed_45, e_X6_speed_46, e_X6_speed_49, e_X6_speed_52, e_X6_speed_53, e_X6_speed_54, e_X6_speed_55, e_X6_speed_56, k_X2_hasBoat hI, k_X2_stands hI, k_X2_hasCell hI, c6, c5, k_X6_within, jm_bd_v, jm_bd_0, bv1, if_false, if_true, not_false_eq_true, not_true_eq_false, if_pos hb, if_pos hn, k_X0_keep he hk h15 h25, hI, hj6, kpC_hi he (show 185 ≤ 200 + 5 by decide)]
      · show jm_R 12 md_X7_speed 0 [.ref 217, .int (nI j), .int (nI p), .null] [] _ = _
        have r17 : ∀ j', jm_up (kpC m e k) (200 + 5) j (nI p) 217 j' = m 217 j' := fun j' => by rw [jupr (by decide), kpC_hi he (by decide)]
        have r21 : jm_up (kpC m e k) (200 + 5) j (nI p) 221 = m 221 := by rw [jupr (by decide), kpC_hi he (by decide)]
        have m4' : jm_up (kpC m e k) (200 + 5) j (nI p) 221 4 = nI N := by rw [r21]; exact m4
        simp only [e_X7_speed_0, e_X7_speed_1, e_X7_speed_2, e_X7_speed_5, e_X7_speed_8, e_X7_speed_9, e_X7_speed_10, e_X7_speed_11, e_X7_speed_14, e_X7_speed_17, e_X7_speed_20, e_X7_speed_22, e_X7_speed_23, e_X7_speed_24, e_X7_speed_27, e_X7_speed_28, e_X7_speed_31, e_X7_speed_33, e_X7_speed_34, e_X7_speed_35, e_X7_speed_36, e_X7_speed_37, e_X7_speed_38, e_X7_speed_41, e_X7_speed_43, e_X7_speed_44, e_X7_speed_45, e_X7_speed_46, e_X7_speed_47, e_X7_speed_48, k_X7_isBoat m4' hN6, in_1_9, jm_bd_v, jm_bd_0, bv1, if_false, if_true, not_false_eq_true, not_true_eq_false, if_pos hb, if_pos hn, k_X7_note hk ((r17 17).trans h17), nI_add, h26, noM_o (show (221 : Nat) ≠ 217 by decide) (show (221 : Nat) ≠ 225 by decide), r21, ew]
    · refine Api.bad hR (r := .int (-1000001)) ?_ ?_
      · show jm_R 12 md_X6_speed 0 [.ref 0, .int b, .int n, .null] [] _ = _
        simp only [e_X6_speed_0, e_X6_speed_1, e_X6_speed_4, e_X6_speed_5, e_X6_speed_8, e_X6_speed_11, e_X6_speed_12, e_X6_speed_13, e_X6_speed_15, e_X6_speed_18, e_X6_speed_21, e_X6_speed_23, e_X6_speed_24, e_X6_speed_25, e_X6_speed_28, e_X6_speed_29, e_X6_speed_32, e_X6_speed_35, e_X6_speed_36, e_X6_speed_39, e_X6_speed_42, e_X6_speed_43, e_X6_speed_44, e_X6_speed_45, e_X6_speed_46, e_X6_speed_49, e_X6_speed_52, e_X6_speed_53, e_X6_speed_54, e_X6_speed_55, e_X6_speed_56, k_X2_hasBoat hI, k_X2_stands hI, k_X2_hasCell hI, c6, c5, k_X6_within, jm_bd_v, jm_bd_0, bv1, if_false, if_true, not_false_eq_true, not_true_eq_false, if_pos hb, if_neg hn]
      · show jm_R 12 md_X7_speed 0 [.ref 217, .int b, .int n, .null] [] _ = _
        simp only [e_X7_speed_0, e_X7_speed_1, e_X7_speed_2, e_X7_speed_5, e_X7_speed_8, e_X7_speed_9, e_X7_speed_10, e_X7_speed_11, e_X7_speed_14, e_X7_speed_17, e_X7_speed_20, e_X7_speed_22, e_X7_speed_23, e_X7_speed_24, e_X7_speed_27, e_X7_speed_28, e_X7_speed_31, e_X7_speed_33, e_X7_speed_34, e_X7_speed_35, e_X7_speed_36, e_X7_speed_37, e_X7_speed_38, e_X7_speed_41, e_X7_speed_43, e_X7_speed_44, e_X7_speed_45, e_X7_speed_46, e_X7_speed_47, e_X7_speed_48, k_X7_isBoat m4 hN6, in_1_9, jm_bd_v, jm_bd_0, bv1, if_false, if_true, not_false_eq_true, not_true_eq_false, if_pos hb, if_neg hn]
  · refine Api.bad hR (r := .int (-1000001)) ?_ ?_
    · show jm_R 12 md_X6_speed 0 [.ref 0, .int b, .int n, .null] [] _ = _
      simp only [e_X6_speed_0, e_X6_speed_1, e_X6_speed_4, e_X6_speed_5, e_X6_speed_8, e_X6_speed_11, e_X6_speed_12, e_X6_speed_13, e_X6_speed_15, e_X6_speed_18, e_X6_speed_21, e_X6_speed_23, e_X6_speed_24, e_X6_speed_25, e_X6_speed_28, e_X6_speed_29, e_X6_speed_32, e_X6_speed_35, e_X6_speed_36, e_X6_speed_39, e_X6_speed_42, e_X6_speed_43, e_X6_speed_44, e_X6_speed_45, e_X6_speed_46, e_X6_speed_49, e_X6_speed_52, e_X6_speed_53, e_X6_speed_54, e_X6_speed_55, e_X6_speed_56, k_X2_hasBoat hI, k_X2_stands hI, k_X2_hasCell hI, c6, c5, k_X6_within, jm_bd_v, jm_bd_0, bv1, if_false, if_true, not_false_eq_true, not_true_eq_false, if_neg hb]
    · show jm_R 12 md_X7_speed 0 [.ref 217, .int b, .int n, .null] [] _ = _
      simp only [e_X7_speed_0, e_X7_speed_1, e_X7_speed_2, e_X7_speed_5, e_X7_speed_8, e_X7_speed_9, e_X7_speed_10, e_X7_speed_11, e_X7_speed_14, e_X7_speed_17, e_X7_speed_20, e_X7_speed_22, e_X7_speed_23, e_X7_speed_24, e_X7_speed_27, e_X7_speed_28, e_X7_speed_31, e_X7_speed_33, e_X7_speed_34, e_X7_speed_35, e_X7_speed_36, e_X7_speed_37, e_X7_speed_38, e_X7_speed_41, e_X7_speed_43, e_X7_speed_44, e_X7_speed_45, e_X7_speed_46, e_X7_speed_47, e_X7_speed_48, k_X7_isBoat m4 hN6, jm_bd_v, jm_bd_0, bv1, if_false, if_true, not_false_eq_true, not_true_eq_false, if_neg hb]
set_option maxRecDepth 100000 in
theorem xor_fin : ∀ s, s < 64 → ∀ b, b < 6 → nI s ^^^ (nI 1 <<< (nI b &&& 31)) = nI (s ^^^ 2 ^ b) := by decide +kernel
theorem api_send (b n : Int32) : Api md_X6_send md_X7_send [.int b, .int n] := by
  intro m hR
  obtain ⟨C, N, hC6, hN6, c6, m4, c5, m3, hcase⟩ := hR.isle
  have hI : jm_ia 200 = true := by decide
  obtain ⟨e, k, he, hk, h15, h25, h17⟩ := hR.ek
  by_cases hb : ¬ b < nI 0 ∧ ¬ nI N ≤ b
  · by_cases hn : ¬ n < nI 0 ∧ ¬ nI 1 < n
    · obtain ⟨j, hj, rfl⟩ := ix_of hb (by omega)
      rcases hcase with ⟨q, -⟩ | ⟨-, q2, g⟩
      · omega
      obtain ⟨s, hs, ms, ms'⟩ := g.sent
      have ms : m 200 7 = nI s := ms
      have hp := pow_le hN6
      have hj6 : j < 6 := by omega
      have hx := xor_fin s (by omega) j hj6
      have hsx : s ^^^ 2 ^ j < 2 ^ N := Nat.xor_lt_two_pow hs (Nat.pow_lt_pow_right (by decide) hj)
      have hgo : ∀ (v : Int32), v = nI (s ^^^ 2 ^ j) → Rel (jm_up (noM (jm_up (kpC m e k) (200 + 0) 7 v) k) 221 6 v) := fun v hv => by
        subst hv
        exact hR.doing he hk h15 h25 q2 (by decide) (g.snt hsx)
      have r17 : ∀ v j', jm_up (kpC m e k) (200 + 0) 7 v 217 j' = m 217 j' := fun v j' => by rw [jupr (by decide), kpC_hi he (by decide)]
      have r21 : ∀ v, jm_up (kpC m e k) (200 + 0) 7 v 221 = m 221 := fun v => by rw [jupr (by decide), kpC_hi he (by decide)]
      have m4' : ∀ v, jm_up (kpC m e k) (200 + 0) 7 v 221 4 = nI N := fun v => by rw [r21]; exact m4
      have n221 : ∀ m', noM m' k 221 = m' 221 := fun m' => noM_o (by decide) (by decide)
      have kk : kpC m e k 200 = m 200 := kpC_hi he (by decide)
      rcases szw hn with rfl | rfl
      · by_cases q : (nI s >>> (nI j &&& 31)) &&& nI 1 = nI 1
        · refine ⟨.int (nI (s ^^^ 2 ^ j)), jm_up (kpC m e k) (200 + 0) 7 (nI (s ^^^ 2 ^ j)), jm_up (noM (jm_up (kpC m e k) (200 + 0) 7 (nI (s ^^^ 2 ^ j))) k) 221 6 (nI (s ^^^ 2 ^ j)), ?_, ?_, hgo _ rfl⟩
          · show jm_R 12 md_X6_send 0 [.ref 0, .int (nI j), .int (nI 0)] [] _ = _
            simp only [e_X6_send_0, e_X6_send_1, e_X6_send_4, e_X6_send_5, e_X6_send_8, e_X6_send_11, e_X6_send_12, e_X6_send_13, e_X6_send_14, e_X6_send_17, e_X6_send_20, e_X6_send_22, e_X6_send_23, e_X6_send_24, e_X6_send_27, e_X6_send_28, e_X6_send_31, e_X6_send_32, e_X6_send_33, e_X6_send_36, e_X6_send_37, e_X6_send_40, e_X6_send_41, e_X6_send_44, e_X6_send_46, e_X6_send_47, e_X6_send_48, e_X6_send_51, e_X6_send_52, e_X6_send_55, e_X6_send_58, e_X6_send_59, e_X6_send_62, e_X6_send_63, e_X6_send_66, e_X6_send_67, e_X6_send_68, e_X6_send_69, e_X6_send_70, e_X6_send_73, e_X6_send_74, e_X6_send_77, e_X6_send_80, k_X2_hasBoat hI, k_X2_stands hI, k_X2_hasCell hI, c6, c5, k_X6_within, jm_bd_v, jm_bd_0, bv1, if_false, if_true, not_false_eq_true, not_true_eq_false, if_pos hb, if_pos hn, k_X2_isSent hI, ms, q, show ¬ nI 0 = nI 1 by decide, k_X0_keep he hk h15 h25, hI, kk, hx, jup_eq]
          · show jm_R 12 md_X7_send 0 [.ref 217, .int (nI j), .int (nI 0)] [] _ = _
            simp only [e_X7_send_0, e_X7_send_1, e_X7_send_2, e_X7_send_5, e_X7_send_8, e_X7_send_9, e_X7_send_10, e_X7_send_11, e_X7_send_12, e_X7_send_15, e_X7_send_18, e_X7_send_20, e_X7_send_21, e_X7_send_22, e_X7_send_25, e_X7_send_27, e_X7_send_28, e_X7_send_29, e_X7_send_32, e_X7_send_33, e_X7_send_34, e_X7_send_37, e_X7_send_38, e_X7_send_41, e_X7_send_42, e_X7_send_45, e_X7_send_47, e_X7_send_48, e_X7_send_49, e_X7_send_52, e_X7_send_53, e_X7_send_56, e_X7_send_58, e_X7_send_59, e_X7_send_60, e_X7_send_61, e_X7_send_62, e_X7_send_63, e_X7_send_64, e_X7_send_65, e_X7_send_66, e_X7_send_69, e_X7_send_71, e_X7_send_72, k_X7_isBoat (m4' _) hN6, in_0_1, jm_bd_v, jm_bd_0, bv1, if_false, if_true, not_false_eq_true, not_true_eq_false, if_pos hb, if_pos hn, k_X7_has, show (6 : Nat) < 44 by decide, r21, ms', q, show ¬ nI 0 = nI 1 by decide, k_X7_note hk ((r17 _ 17).trans h17), n221, hx, jup_eq]
        · refine Api.bad hR (r := .int (-1000002)) ?_ ?_
          · show jm_R 12 md_X6_send 0 [.ref 0, .int (nI j), .int (nI 0)] [] _ = _
            simp only [e_X6_send_0, e_X6_send_1, e_X6_send_4, e_X6_send_5, e_X6_send_8, e_X6_send_11, e_X6_send_12, e_X6_send_13, e_X6_send_14, e_X6_send_17, e_X6_send_20, e_X6_send_22, e_X6_send_23, e_X6_send_24, e_X6_send_27, e_X6_send_28, e_X6_send_31, e_X6_send_32, e_X6_send_33, e_X6_send_36, e_X6_send_37, e_X6_send_40, e_X6_send_41, e_X6_send_44, e_X6_send_46, e_X6_send_47, e_X6_send_48, e_X6_send_51, e_X6_send_52, e_X6_send_55, e_X6_send_58, e_X6_send_59, e_X6_send_62, e_X6_send_63, e_X6_send_66, e_X6_send_67, e_X6_send_68, e_X6_send_69, e_X6_send_70, e_X6_send_73, e_X6_send_74, e_X6_send_77, e_X6_send_80, k_X2_hasBoat hI, k_X2_stands hI, k_X2_hasCell hI, c6, c5, k_X6_within, jm_bd_v, jm_bd_0, bv1, if_false, if_true, not_false_eq_true, not_true_eq_false, if_pos hb, if_pos hn, k_X2_isSent hI, ms, q, show ¬ nI 0 = nI 1 by decide]
          · show jm_R 12 md_X7_send 0 [.ref 217, .int (nI j), .int (nI 0)] [] _ = _
            simp only [e_X7_send_0, e_X7_send_1, e_X7_send_2, e_X7_send_5, e_X7_send_8, e_X7_send_9, e_X7_send_10, e_X7_send_11, e_X7_send_12, e_X7_send_15, e_X7_send_18, e_X7_send_20, e_X7_send_21, e_X7_send_22, e_X7_send_25, e_X7_send_27, e_X7_send_28, e_X7_send_29, e_X7_send_32, e_X7_send_33, e_X7_send_34, e_X7_send_37, e_X7_send_38, e_X7_send_41, e_X7_send_42, e_X7_send_45, e_X7_send_47, e_X7_send_48, e_X7_send_49, e_X7_send_52, e_X7_send_53, e_X7_send_56, e_X7_send_58, e_X7_send_59, e_X7_send_60, e_X7_send_61, e_X7_send_62, e_X7_send_63, e_X7_send_64, e_X7_send_65, e_X7_send_66, e_X7_send_69, e_X7_send_71, e_X7_send_72, k_X7_isBoat m4 hN6, in_0_1, jm_bd_v, jm_bd_0, bv1, if_false, if_true, not_false_eq_true, not_true_eq_false, if_pos hb, if_pos hn, k_X7_has, show (6 : Nat) < 44 by decide, ms', q, show ¬ nI 0 = nI 1 by decide]
      · by_cases q : (nI s >>> (nI j &&& 31)) &&& nI 1 = nI 1
        · refine Api.bad hR (r := .int (-1000002)) ?_ ?_
          · show jm_R 12 md_X6_send 0 [.ref 0, .int (nI j), .int (nI 1)] [] _ = _
            simp only [e_X6_send_0, e_X6_send_1, e_X6_send_4, e_X6_send_5, e_X6_send_8, e_X6_send_11, e_X6_send_12, e_X6_send_13, e_X6_send_14, e_X6_send_17, e_X6_send_20, e_X6_send_22, e_X6_send_23, e_X6_send_24, e_X6_send_27, e_X6_send_28, e_X6_send_31, e_X6_send_32, e_X6_send_33, e_X6_send_36, e_X6_send_37, e_X6_send_40, e_X6_send_41, e_X6_send_44, e_X6_send_46, e_X6_send_47, e_X6_send_48, e_X6_send_51, e_X6_send_52, e_X6_send_55, e_X6_send_58, e_X6_send_59, e_X6_send_62, e_X6_send_63, e_X6_send_66, e_X6_send_67, e_X6_send_68, e_X6_send_69, e_X6_send_70, e_X6_send_73, e_X6_send_74, e_X6_send_77, e_X6_send_80, k_X2_hasBoat hI, k_X2_stands hI, k_X2_hasCell hI, c6, c5, k_X6_within, jm_bd_v, jm_bd_0, bv1, if_false, if_true, not_false_eq_true, not_true_eq_false, if_pos hb, if_pos hn, k_X2_isSent hI, ms, q]
          · show jm_R 12 md_X7_send 0 [.ref 217, .int (nI j), .int (nI 1)] [] _ = _
            simp only [e_X7_send_0, e_X7_send_1, e_X7_send_2, e_X7_send_5, e_X7_send_8, e_X7_send_9, e_X7_send_10, e_X7_send_11, e_X7_send_12, e_X7_send_15, e_X7_send_18, e_X7_send_20, e_X7_send_21, e_X7_send_22, e_X7_send_25, e_X7_send_27, e_X7_send_28, e_X7_send_29, e_X7_send_32, e_X7_send_33, e_X7_send_34, e_X7_send_37, e_X7_send_38, e_X7_send_41, e_X7_send_42, e_X7_send_45, e_X7_send_47, e_X7_send_48, e_X7_send_49, e_X7_send_52, e_X7_send_53, e_X7_send_56, e_X7_send_58, e_X7_send_59, e_X7_send_60, e_X7_send_61, e_X7_send_62, e_X7_send_63, e_X7_send_64, e_X7_send_65, e_X7_send_66, e_X7_send_69, e_X7_send_71, e_X7_send_72, k_X7_isBoat m4 hN6, in_0_1, jm_bd_v, jm_bd_0, bv1, if_false, if_true, not_false_eq_true, not_true_eq_false, if_pos hb, if_pos hn, k_X7_has, show (6 : Nat) < 44 by decide, ms', q]
        · refine ⟨.int (nI (s ^^^ 2 ^ j)), jm_up (kpC m e k) (200 + 0) 7 (nI (s ^^^ 2 ^ j)), jm_up (noM (jm_up (kpC m e k) (200 + 0) 7 (nI (s ^^^ 2 ^ j))) k) 221 6 (nI (s ^^^ 2 ^ j)), ?_, ?_, hgo _ rfl⟩
          · show jm_R 12 md_X6_send 0 [.ref 0, .int (nI j), .int (nI 1)] [] _ = _
            simp only [e_X6_send_0, e_X6_send_1, e_X6_send_4, e_X6_send_5, e_X6_send_8, e_X6_send_11, e_X6_send_12, e_X6_send_13, e_X6_send_14, e_X6_send_17, e_X6_send_20, e_X6_send_22, e_X6_send_23, e_X6_send_24, e_X6_send_27, e_X6_send_28, e_X6_send_31, e_X6_send_32, e_X6_send_33, e_X6_send_36, e_X6_send_37, e_X6_send_40, e_X6_send_41, e_X6_send_44, e_X6_send_46, e_X6_send_47, e_X6_send_48, e_X6_send_51, e_X6_send_52, e_X6_send_55, e_X6_send_58, e_X6_send_59, e_X6_send_62, e_X6_send_63, e_X6_send_66, e_X6_send_67, e_X6_send_68, e_X6_send_69, e_X6_send_70, e_X6_send_73, e_X6_send_74, e_X6_send_77, e_X6_send_80, k_X2_hasBoat hI, k_X2_stands hI, k_X2_hasCell hI, c6, c5, k_X6_within, jm_bd_v, jm_bd_0, bv1, if_false, if_true, not_false_eq_true, not_true_eq_false, if_pos hb, if_pos hn, k_X2_isSent hI, ms, q, show ¬ nI 0 = nI 1 by decide, k_X0_keep he hk h15 h25, hI, kk, hx, jup_eq]
          · show jm_R 12 md_X7_send 0 [.ref 217, .int (nI j), .int (nI 1)] [] _ = _
            simp only [e_X7_send_0, e_X7_send_1, e_X7_send_2, e_X7_send_5, e_X7_send_8, e_X7_send_9, e_X7_send_10, e_X7_send_11, e_X7_send_12, e_X7_send_15, e_X7_send_18, e_X7_send_20, e_X7_send_21, e_X7_send_22, e_X7_send_25, e_X7_send_27, e_X7_send_28, e_X7_send_29, e_X7_send_32, e_X7_send_33, e_X7_send_34, e_X7_send_37, e_X7_send_38, e_X7_send_41, e_X7_send_42, e_X7_send_45, e_X7_send_47, e_X7_send_48, e_X7_send_49, e_X7_send_52, e_X7_send_53, e_X7_send_56, e_X7_send_58, e_X7_send_59, e_X7_send_60, e_X7_send_61, e_X7_send_62, e_X7_send_63, e_X7_send_64, e_X7_send_65, e_X7_send_66, e_X7_send_69, e_X7_send_71, e_X7_send_72, k_X7_isBoat (m4' _) hN6, in_0_1, jm_bd_v, jm_bd_0, bv1, if_false, if_true, not_false_eq_true, not_true_eq_false, if_pos hb, if_pos hn, k_X7_has, show (6 : Nat) < 44 by decide, r21, ms', q, show ¬ nI 0 = nI 1 by decide, k_X7_note hk ((r17 _ 17).trans h17), n221, hx, jup_eq]
    · refine Api.bad hR (r := .int (-1000001)) ?_ ?_
      · show jm_R 12 md_X6_send 0 [.ref 0, .int b, .int n] [] _ = _
        simp only [e_X6_send_0, e_X6_send_1, e_X6_send_4, e_X6_send_5, e_X6_send_8, e_X6_send_11, e_X6_send_12, e_X6_send_13, e_X6_send_14, e_X6_send_17, e_X6_send_20, e_X6_send_22, e_X6_send_23, e_X6_send_24, e_X6_send_27, e_X6_send_28, e_X6_send_31, e_X6_send_32, e_X6_send_33, e_X6_send_36, e_X6_send_37, e_X6_send_40, e_X6_send_41, e_X6_send_44, e_X6_send_46, e_X6_send_47, e_X6_send_48, e_X6_send_51, e_X6_send_52, e_X6_send_55, e_X6_send_58, e_X6_send_59, e_X6_send_62, e_X6_send_63, e_X6_send_66, e_X6_send_67, e_X6_send_68, e_X6_send_69, e_X6_send_70, e_X6_send_73, e_X6_send_74, e_X6_send_77, e_X6_send_80, k_X2_hasBoat hI, k_X2_stands hI, k_X2_hasCell hI, c6, c5, k_X6_within, jm_bd_v, jm_bd_0, bv1, if_false, if_true, not_false_eq_true, not_true_eq_false, if_pos hb, if_neg hn]
      · show jm_R 12 md_X7_send 0 [.ref 217, .int b, .int n] [] _ = _
        simp only [e_X7_send_0, e_X7_send_1, e_X7_send_2, e_X7_send_5, e_X7_send_8, e_X7_send_9, e_X7_send_10, e_X7_send_11, e_X7_send_12, e_X7_send_15, e_X7_send_18, e_X7_send_20, e_X7_send_21, e_X7_send_22, e_X7_send_25, e_X7_send_27, e_X7_send_28, e_X7_send_29, e_X7_send_32, e_X7_send_33, e_X7_send_34, e_X7_send_37, e_X7_send_38, e_X7_send_41, e_X7_send_42, e_X7_send_45, e_X7_send_47, e_X7_send_48, e_X7_send_49, e_X7_send_52, e_X7_send_53, e_X7_send_56, e_X7_send_58, e_X7_send_59, e_X7_send_60, e_X7_send_61, e_X7_send_62, e_X7_send_63, e_X7_send_64, e_X7_send_65, e_X7_send_66, e_X7_send_69, e_X7_send_71, e_X7_send_72, k_X7_isBoat m4 hN6, in_0_1, jm_bd_v, jm_bd_0, bv1, if_false, if_true, not_false_eq_true, not_true_eq_false, if_pos hb, if_neg hn]
  · refine Api.bad hR (r := .int (-1000001)) ?_ ?_
    · show jm_R 12 md_X6_send 0 [.ref 0, .int b, .int n] [] _ = _
      simp only [e_X6_send_0, e_X6_send_1, e_X6_send_4, e_X6_send_5, e_X6_send_8, e_X6_send_11, e_X6_send_12, e_X6_send_13, e_X6_send_14, e_X6_send_17, e_X6_send_20, e_X6_send_22, e_X6_send_23, e_X6_send_24, e_X6_send_27, e_X6_send_28, e_X6_send_31, e_X6_send_32, e_X6_send_33, e_X6_send_36, e_X6_send_37, e_X6_send_40, e_X6_send_41, e_X6_send_44, e_X6_send_46, e_X6_send_47, e_X6_send_48, e_X6_send_51, e_X6_send_52, e_X6_send_55, e_X6_send_58, e_X6_send_59, e_X6_send_62, e_X6_send_63, e_X6_send_66, e_X6_send_67, e_X6_send_68, e_X6_send_69, e_X6_send_70, e_X6_send_73, e_X6_send_74, e_X6_send_77, e_X6_send_80, k_X2_hasBoat hI, k_X2_stands hI, k_X2_hasCell hI, c6, c5, k_X6_within, jm_bd_v, jm_bd_0, bv1, if_false, if_true, not_false_eq_true, not_true_eq_false, if_neg hb]
    · show jm_R 12 md_X7_send 0 [.ref 217, .int b, .int n] [] _ = _
      simp only [e_X7_send_0, e_X7_send_1, e_X7_send_2, e_X7_send_5, e_X7_send_8, e_X7_send_9, e_X7_send_10, e_X7_send_11, e_X7_send_12, e_X7_send_15, e_X7_send_18, e_X7_send_20, e_X7_send_21, e_X7_send_22, e_X7_send_25, e_X7_send_27, e_X7_send_28, e_X7_send_29, e_X7_send_32, e_X7_send_33, e_X7_send_34, e_X7_send_37, e_X7_send_38, e_X7_send_41, e_X7_send_42, e_X7_send_45, e_X7_send_47, e_X7_send_48, e_X7_send_49, e_X7_send_52, e_X7_send_53, e_X7_send_56, e_X7_send_58, e_X7_send_59, e_X7_send_60, e_X7_send_61, e_X7_send_62, e_X7_send_63, e_X7_send_64, e_X7_send_65, e_X7_send_66, e_X7_send_69, e_X7_send_71, e_X7_send_72, k_X7_isBoat m4 hN6, jm_bd_v, jm_bd_0, bv1, if_false, if_true, not_false_eq_true, not_true_eq_false, if_neg hb]
theorem in_20 {d : Nat} {v : Int32} {M : jm_M} : jm_K d md_X7_in [.long v.toInt64, .long (-20), .long (lN 20)] M = some (some (.int (if ¬ v < -20 ∧ ¬ nI 20 < v then nI 1 else nI 0)), M) := by
  rw [show (-20 : Int64) = (-20 : Int32).toInt64 by decide, lN_64 (by decide), k_X7_inI]
theorem in_0_40 {d : Nat} {v : Int32} {M : jm_M} : jm_K d md_X7_in [.long v.toInt64, .long (lN 0), .long (lN 40)] M = some (some (.int (if ¬ v < nI 0 ∧ ¬ nI 40 < v then nI 1 else nI 0)), M) := k_X7_inN (by decide) (by decide)
theorem api_sand (b n : Int32) : Api md_X6_sand md_X7_sand [.int b, .int n] := by
  intro m hR
  obtain ⟨C, N, hC6, hN6, c6, m4, c5, m3, hcase⟩ := hR.isle
  have hI : jm_ia 200 = true := by decide
  obtain ⟨e, k, he, hk, h15, h25, h17⟩ := hR.ek
  by_cases hb : ¬ b < nI 0 ∧ ¬ nI C ≤ b
  · by_cases hn : ¬ n < -20 ∧ ¬ nI 20 < n
    · by_cases h0 : n = nI 0
      · refine Api.bad hR (r := .int (-1000001)) ?_ ?_
        · show jm_R 12 md_X6_sand 0 [.ref 0, .int b, .int n, .null] [] _ = _
          simp only [e_X6_sand_0, e_X6_sand_1, e_X6_sand_4, e_X6_sand_5, e_X6_sand_8, e_X6_sand_11, e_X6_sand_12, e_X6_sand_14, e_X6_sand_16, e_X6_sand_19, e_X6_sand_22, e_X6_sand_23, e_X6_sand_26, e_X6_sand_28, e_X6_sand_29, e_X6_sand_30, e_X6_sand_33, e_X6_sand_36, e_X6_sand_37, e_X6_sand_38, e_X6_sand_39, e_X6_sand_40, e_X6_sand_41, e_X6_sand_42, e_X6_sand_43, e_X6_sand_45, e_X6_sand_48, e_X6_sand_51, e_X6_sand_53, e_X6_sand_54, e_X6_sand_55, e_X6_sand_58, e_X6_sand_59, e_X6_sand_62, e_X6_sand_65, e_X6_sand_66, e_X6_sand_69, e_X6_sand_72, e_X6_sand_73, e_X6_sand_74, e_X6_sand_75, e_X6_sand_76, k_X2_hasBoat hI, k_X2_stands hI, k_X2_hasCell hI, c6, c5, k_X6_within, jm_bd_v, jm_bd_0, bv1, if_false, if_true, not_false_eq_true, not_true_eq_false, if_pos hb, if_pos hn, if_neg (fun h : ¬ n = nI 0 => h h0)]
        · show jm_R 12 md_X7_sand 0 [.ref 217, .int b, .int n, .null] [] _ = _
          simp only [e_X7_sand_0, e_X7_sand_1, e_X7_sand_2, e_X7_sand_5, e_X7_sand_8, e_X7_sand_9, e_X7_sand_12, e_X7_sand_13, e_X7_sand_14, e_X7_sand_17, e_X7_sand_20, e_X7_sand_23, e_X7_sand_26, e_X7_sand_28, e_X7_sand_29, e_X7_sand_30, e_X7_sand_33, e_X7_sand_35, e_X7_sand_36, e_X7_sand_37, e_X7_sand_38, e_X7_sand_39, e_X7_sand_40, e_X7_sand_41, e_X7_sand_42, e_X7_sand_43, e_X7_sand_44, e_X7_sand_47, e_X7_sand_50, e_X7_sand_53, e_X7_sand_55, e_X7_sand_56, e_X7_sand_57, e_X7_sand_60, e_X7_sand_61, e_X7_sand_64, e_X7_sand_66, e_X7_sand_67, e_X7_sand_68, e_X7_sand_69, e_X7_sand_70, e_X7_sand_71, k_X7_isCell m3 hC6, jm_bd_v, jm_bd_0, bv1, if_false, if_true, not_false_eq_true, not_true_eq_false, if_pos hb, if_pos h0]
      · obtain ⟨j, hj, rfl⟩ := ix_of hb (by omega)
        rcases hcase with ⟨-, q, -⟩ | ⟨-, q2, g⟩
        · omega
        have ew : m 201 j = m 221 (8 + j) := by obtain ⟨o, hv, hr⟩ := g; exact hr.2.1 j hj
        have hj6 : j < 6 := by omega
        have h8 : 8 + j < 44 := by omega
        by_cases ht : ¬ m 221 (8 + j) + n < nI 0 ∧ ¬ nI 40 < m 221 (8 + j) + n
        · refine ⟨.int (m 221 (8 + j) + n), jm_up (kpC m e k) (200 + 1) j (m 221 (8 + j) + n), jm_up (noM (jm_up (kpC m e k) (200 + 1) j (m 221 (8 + j) + n)) k) 221 (8 + j) (m 221 (8 + j) + n), ?_, ?_, hR.doing he hk h15 h25 q2 (by decide) (g.hgt hj)⟩
          · show jm_R 12 md_X6_sand 0 [.ref 0, .int (nI j), .int n, .null] [] _ = _
            simp only [e_X6_sand_0, e_X6_sand_1, e_X6_sand_4, e_X6_sand_5, e_X6_sand_8, e_X6_sand_11, e_X6_sand_12, e_X6_sand_14, e_X6_sand_16, e_X6_sand_19, e_X6_sand_22, e_X6_sand_23, e_X6_sand_26, e_X6_sand_28, e_X6_sand_29, e_X6_sand_30, e_X6_sand_33, e_X6_sand_36, e_X6_sand_37, e_X6_sand_38, e_X6_sand_39, e_X6_sand_40, e_X6_sand_41, e_X6_sand_42, e_X6_sand_43, e_X6_sand_45, e_X6_sand_48, e_X6_sand_51, e_X6_sand_53, e_X6_sand_54, e_X6_sand_55, e_X6_sand_58, e_X6_sand_59, e_X6_sand_62, e_X6_sand_65, e_X6_sand_66, e_X6_sand_69, e_X6_sand_72, e_X6_sand_73, e_X6_sand_74, e_X6_sand_75, e_X6_sand_76, k_X2_hasBoat hI, k_X2_stands hI, k_X2_hasCell hI, c6, c5, k_X6_within, jm_bd_v, jm_bd_0, bv1, if_false, if_true, not_false_eq_true, not_true_eq_false, if_pos hb, if_pos hn, if_pos h0, hI, hj6, ew, if_pos ht, k_X0_keep he hk h15 h25]
          · show jm_R 12 md_X7_sand 0 [.ref 217, .int (nI j), .int n, .null] [] _ = _
            have r17 : ∀ v j', jm_up (kpC m e k) (200 + 1) j v 217 j' = m 217 j' := fun v j' => by rw [jupr (by decide), kpC_hi he (by decide)]
            have r21 : ∀ v, jm_up (kpC m e k) (200 + 1) j v 221 = m 221 := fun v => by rw [jupr (by decide), kpC_hi he (by decide)]
            have m3' : ∀ v, jm_up (kpC m e k) (200 + 1) j v 221 3 = nI C := fun v => by rw [r21]; exact m3
            simp only [e_X7_sand_0, e_X7_sand_1, e_X7_sand_2, e_X7_sand_5, e_X7_sand_8, e_X7_sand_9, e_X7_sand_12, e_X7_sand_13, e_X7_sand_14, e_X7_sand_17, e_X7_sand_20, e_X7_sand_23, e_X7_sand_26, e_X7_sand_28, e_X7_sand_29, e_X7_sand_30, e_X7_sand_33, e_X7_sand_35, e_X7_sand_36, e_X7_sand_37, e_X7_sand_38, e_X7_sand_39, e_X7_sand_40, e_X7_sand_41, e_X7_sand_42, e_X7_sand_43, e_X7_sand_44, e_X7_sand_47, e_X7_sand_50, e_X7_sand_53, e_X7_sand_55, e_X7_sand_56, e_X7_sand_57, e_X7_sand_60, e_X7_sand_61, e_X7_sand_64, e_X7_sand_66, e_X7_sand_67, e_X7_sand_68, e_X7_sand_69, e_X7_sand_70, e_X7_sand_71, k_X7_isCell (m3' _) hC6, in_20, in_0_40, jm_bd_v, jm_bd_0, bv1, if_false, if_true, not_false_eq_true, not_true_eq_false, if_pos hb, if_pos hn, if_neg h0, nI_add, h8, r21, if_pos ht, k_X7_note hk ((r17 _ 17).trans h17)]
        · refine Api.bad hR (r := .int (-1000003)) ?_ ?_
          · show jm_R 12 md_X6_sand 0 [.ref 0, .int (nI j), .int n, .null] [] _ = _
            simp only [e_X6_sand_0, e_X6_sand_1, e_X6_sand_4, e_X6_sand_5, e_X6_sand_8, e_X6_sand_11, e_X6_sand_12, e_X6_sand_14, e_X6_sand_16, e_X6_sand_19, e_X6_sand_22, e_X6_sand_23, e_X6_sand_26, e_X6_sand_28, e_X6_sand_29, e_X6_sand_30, e_X6_sand_33, e_X6_sand_36, e_X6_sand_37, e_X6_sand_38, e_X6_sand_39, e_X6_sand_40, e_X6_sand_41, e_X6_sand_42, e_X6_sand_43, e_X6_sand_45, e_X6_sand_48, e_X6_sand_51, e_X6_sand_53, e_X6_sand_54, e_X6_sand_55, e_X6_sand_58, e_X6_sand_59, e_X6_sand_62, e_X6_sand_65, e_X6_sand_66, e_X6_sand_69, e_X6_sand_72, e_X6_sand_73, e_X6_sand_74, e_X6_sand_75, e_X6_sand_76, k_X2_hasBoat hI, k_X2_stands hI, k_X2_hasCell hI, c6, c5, k_X6_within, jm_bd_v, jm_bd_0, bv1, if_false, if_true, not_false_eq_true, not_true_eq_false, if_pos hb, if_pos hn, if_pos h0, hI, hj6, ew, if_neg ht]
          · show jm_R 12 md_X7_sand 0 [.ref 217, .int (nI j), .int n, .null] [] _ = _
            simp only [e_X7_sand_0, e_X7_sand_1, e_X7_sand_2, e_X7_sand_5, e_X7_sand_8, e_X7_sand_9, e_X7_sand_12, e_X7_sand_13, e_X7_sand_14, e_X7_sand_17, e_X7_sand_20, e_X7_sand_23, e_X7_sand_26, e_X7_sand_28, e_X7_sand_29, e_X7_sand_30, e_X7_sand_33, e_X7_sand_35, e_X7_sand_36, e_X7_sand_37, e_X7_sand_38, e_X7_sand_39, e_X7_sand_40, e_X7_sand_41, e_X7_sand_42, e_X7_sand_43, e_X7_sand_44, e_X7_sand_47, e_X7_sand_50, e_X7_sand_53, e_X7_sand_55, e_X7_sand_56, e_X7_sand_57, e_X7_sand_60, e_X7_sand_61, e_X7_sand_64, e_X7_sand_66, e_X7_sand_67, e_X7_sand_68, e_X7_sand_69, e_X7_sand_70, e_X7_sand_71, k_X7_isCell m3 hC6, in_20, in_0_40, jm_bd_v, jm_bd_0, bv1, if_false, if_true, not_false_eq_true, not_true_eq_false, if_pos hb, if_pos hn, if_neg h0, nI_add, h8, if_neg ht]
    · refine Api.bad hR (r := .int (-1000001)) ?_ ?_
      · show jm_R 12 md_X6_sand 0 [.ref 0, .int b, .int n, .null] [] _ = _
        simp only [e_X6_sand_0, e_X6_sand_1, e_X6_sand_4, e_X6_sand_5, e_X6_sand_8, e_X6_sand_11, e_X6_sand_12, e_X6_sand_14, e_X6_sand_16, e_X6_sand_19, e_X6_sand_22, e_X6_sand_23, e_X6_sand_26, e_X6_sand_28, e_X6_sand_29, e_X6_sand_30, e_X6_sand_33, e_X6_sand_36, e_X6_sand_37, e_X6_sand_38, e_X6_sand_39, e_X6_sand_40, e_X6_sand_41, e_X6_sand_42, e_X6_sand_43, e_X6_sand_45, e_X6_sand_48, e_X6_sand_51, e_X6_sand_53, e_X6_sand_54, e_X6_sand_55, e_X6_sand_58, e_X6_sand_59, e_X6_sand_62, e_X6_sand_65, e_X6_sand_66, e_X6_sand_69, e_X6_sand_72, e_X6_sand_73, e_X6_sand_74, e_X6_sand_75, e_X6_sand_76, k_X2_hasBoat hI, k_X2_stands hI, k_X2_hasCell hI, c6, c5, k_X6_within, jm_bd_v, jm_bd_0, bv1, if_false, if_true, not_false_eq_true, not_true_eq_false, if_pos hb, if_neg hn]
      · show jm_R 12 md_X7_sand 0 [.ref 217, .int b, .int n, .null] [] _ = _
        simp only [e_X7_sand_0, e_X7_sand_1, e_X7_sand_2, e_X7_sand_5, e_X7_sand_8, e_X7_sand_9, e_X7_sand_12, e_X7_sand_13, e_X7_sand_14, e_X7_sand_17, e_X7_sand_20, e_X7_sand_23, e_X7_sand_26, e_X7_sand_28, e_X7_sand_29, e_X7_sand_30, e_X7_sand_33, e_X7_sand_35, e_X7_sand_36, e_X7_sand_37, e_X7_sand_38, e_X7_sand_39, e_X7_sand_40, e_X7_sand_41, e_X7_sand_42, e_X7_sand_43, e_X7_sand_44, e_X7_sand_47, e_X7_sand_50, e_X7_sand_53, e_X7_sand_55, e_X7_sand_56, e_X7_sand_57, e_X7_sand_60, e_X7_sand_61, e_X7_sand_64, e_X7_sand_66, e_X7_sand_67, e_X7_sand_68, e_X7_sand_69, e_X7_sand_70, e_X7_sand_71, k_X7_isCell m3 hC6, in_20, jm_bd_v, jm_bd_0, bv1, if_false, if_true, not_false_eq_true, not_true_eq_false, if_pos hb, if_neg hn, ite_self]
  · refine Api.bad hR (r := .int (-1000001)) ?_ ?_
    · show jm_R 12 md_X6_sand 0 [.ref 0, .int b, .int n, .null] [] _ = _
      simp only [e_X6_sand_0, e_X6_sand_1, e_X6_sand_4, e_X6_sand_5, e_X6_sand_8, e_X6_sand_11, e_X6_sand_12, e_X6_sand_14, e_X6_sand_16, e_X6_sand_19, e_X6_sand_22, e_X6_sand_23, e_X6_sand_26, e_X6_sand_28, e_X6_sand_29, e_X6_sand_30, e_X6_sand_33, e_X6_sand_36, e_X6_sand_37, e_X6_sand_38, e_X6_sand_39, e_X6_sand_40, e_X6_sand_41, e_X6_sand_42, e_X6_sand_43, e_X6_sand_45, e_X6_sand_48, e_X6_sand_51, e_X6_sand_53, e_X6_sand_54, e_X6_sand_55, e_X6_sand_58, e_X6_sand_59, e_X6_sand_62, e_X6_sand_65, e_X6_sand_66, e_X6_sand_69, e_X6_sand_72, e_X6_sand_73, e_X6_sand_74, e_X6_sand_75, e_X6_sand_76, k_X2_hasBoat hI, k_X2_stands hI, k_X2_hasCell hI, c6, c5, k_X6_within, jm_bd_v, jm_bd_0, bv1, if_false, if_true, not_false_eq_true, not_true_eq_false, if_neg hb]
    · show jm_R 12 md_X7_sand 0 [.ref 217, .int b, .int n, .null] [] _ = _
      simp only [e_X7_sand_0, e_X7_sand_1, e_X7_sand_2, e_X7_sand_5, e_X7_sand_8, e_X7_sand_9, e_X7_sand_12, e_X7_sand_13, e_X7_sand_14, e_X7_sand_17, e_X7_sand_20, e_X7_sand_23, e_X7_sand_26, e_X7_sand_28, e_X7_sand_29, e_X7_sand_30, e_X7_sand_33, e_X7_sand_35, e_X7_sand_36, e_X7_sand_37, e_X7_sand_38, e_X7_sand_39, e_X7_sand_40, e_X7_sand_41, e_X7_sand_42, e_X7_sand_43, e_X7_sand_44, e_X7_sand_47, e_X7_sand_50, e_X7_sand_53, e_X7_sand_55, e_X7_sand_56, e_X7_sand_57, e_X7_sand_60, e_X7_sand_61, e_X7_sand_64, e_X7_sand_66, e_X7_sand_67, e_X7_sand_68, e_X7_sand_69, e_X7_sand_70, e_X7_sand_71, k_X7_isCell m3 hC6, jm_bd_v, jm_bd_0, bv1, if_false, if_true, not_false_eq_true, not_true_eq_false, if_neg hb]
