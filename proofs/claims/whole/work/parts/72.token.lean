/-! the tape, read by the reference -/
def ms (m : Nat → Nat → Int32) (b t v p w : Int32) (rd : Nat → Int32) : Nat → Nat → Int32 := fun a j => if a = 217 then (if j = 13 then b else if j = 11 then t else if j = 12 then v else if j = 10 then p else if j = 14 then w else m 217 j) else if a = 224 then rd j else m a j
section MS
variable {m : Nat → Nat → Int32} {b t v p w u : Int32} {rd : Nat → Int32}
theorem ms_13 : ms m b t v p w rd 217 13 = b := rfl
theorem ms_11 : ms m b t v p w rd 217 11 = t := rfl
theorem ms_12 : ms m b t v p w rd 217 12 = v := rfl
theorem ms_10 : ms m b t v p w rd 217 10 = p := rfl
theorem ms_14 : ms m b t v p w rd 217 14 = w := rfl
theorem ms_8 : ms m b t v p w rd 217 8 = m 217 8 := rfl
theorem ms_rd {j : Nat} : ms m b t v p w rd 224 j = rd j := rfl
theorem ms_o {a : Nat} (h1 : a ≠ 217) (h2 : a ≠ 224) : ms m b t v p w rd a = m a := by
  funext j
  unfold ms
  rw [if_neg h1, if_neg h2]
theorem ms_7 {j : Nat} (h : j < 10 ∨ 14 < j) : ms m b t v p w rd 217 j = m 217 j := by
  unfold ms
  rw [if_pos rfl, if_neg (by omega), if_neg (by omega), if_neg (by omega), if_neg (by omega), if_neg (by omega)]
theorem ms_tp {j : Nat} : ms m b t v p w rd 223 j = m 223 j := rfl
theorem ms_u13 : jm_up (ms m b t v p w rd) 217 13 u = ms m u t v p w rd := by
  funext a j
  unfold jm_up ms
  by_cases h : a = 217
  · by_cases h3 : j = 13 <;> simp [h, h3]
  · simp [h]
theorem ms_u11 : jm_up (ms m b t v p w rd) 217 11 u = ms m b u v p w rd := by
  funext a j
  unfold jm_up ms
  by_cases h : a = 217
  · by_cases h3 : j = 11 <;> simp [h, h3]
  · simp [h]
theorem ms_u12 : jm_up (ms m b t v p w rd) 217 12 u = ms m b t u p w rd := by
  funext a j
  unfold jm_up ms
  by_cases h : a = 217
  · by_cases h3 : j = 12 <;> simp [h, h3]
  · simp [h]
theorem ms_u10 : jm_up (ms m b t v p w rd) 217 10 u = ms m b t v u w rd := by
  funext a j
  unfold jm_up ms
  by_cases h : a = 217
  · by_cases h3 : j = 10 <;> simp [h, h3]
  · simp [h]
theorem ms_u14 : jm_up (ms m b t v p w rd) 217 14 u = ms m b t v p u rd := by
  funext a j
  unfold jm_up ms
  by_cases h : a = 217
  · by_cases h3 : j = 14 <;> simp [h, h3]
  · simp [h]
theorem ms_ur {i : Nat} : jm_up (ms m b t v p w rd) 224 i u = ms m b t v p w (upd rd i u) := by
  funext a j
  unfold jm_up ms upd
  by_cases h : a = 224
  · by_cases h3 : j = i <;> simp [h, h3]
  · simp [h]
end MS
def MT (m : Nat → Nat → Int32) (k : Nat) (B : Nat → Nat) : Prop := m 217 8 = nI k ∧ k ≤ 120 ∧ (∀ i, i < k → m 223 i = nI (B i)) ∧ ∀ i, i < k → B i < 256
abbrev sgn (b : Nat) : Prop := (97 ≤ b ∧ b ≤ 122) ∨ b = 44 ∨ b = 59
/-- the token that begins at p -/
def TK (B : Nat → Nat) (k p : Nat) (r : Nat × Nat × Nat) : Prop := (p = k ∧ r.1 = 3) ∨ ((nmL B k p = 1 ∨ nmL B k p = 2) ∧ r.1 = 2 ∧ r.2.1 = nmV B k p ∧ r.2.2 = p + nmL B k p) ∨ (nmL B k p = 3 ∧ r.1 = 0) ∨ (p < k ∧ nmL B k p = 0 ∧ r.2.1 = B p ∧ r.2.2 = p + 1 ∧ (r.1 = 0 ∨ r.1 = 1) ∧ (r.1 = 1 ↔ sgn (B p)))
section TK
variable {d k p : Nat} {B : Nat → Nat} {m : Nat → Nat → Int32} {b t w : Int32} {rd : Nat → Int32}
theorem in_dg {v : Int32} {M : jm_M} : jm_K d md_X7_in [.long v.toInt64, .long (lN 48), .long (lN 57)] M = some (some (.int (if ¬ v < nI 48 ∧ ¬ nI 57 < v then nI 1 else nI 0)), M) := k_X7_inN (by decide) (by decide)
theorem in_az {v : Int32} {M : jm_M} : jm_K d md_X7_in [.long v.toInt64, .long (lN 97), .long (lN 122)] M = some (some (.int (if ¬ v < nI 97 ∧ ¬ nI 122 < v then nI 1 else nI 0)), M) := k_X7_inN (by decide) (by decide)
theorem nt_step (hT : MT m k B) {e v : Nat} (hv : v < 1000) (h : dg B k e) : jm_R (d + 1) md_X7_nextToken 33 [.ref 217] [] (jm_mk (ms m b t (nI v) (nI e) w rd)) = jm_R (d + 1) md_X7_nextToken 33 [.ref 217] [] (jm_mk (ms m b t (nI (if 99 < v then v else 10 * v + (B e - 48))) (nI (e + 1)) w rd)) := by
  obtain ⟨h1, h2, h3, h4⟩ := hT
  obtain ⟨a1, a2, a3⟩ := h
  have g1 : ¬ nI k ≤ nI e := nI_ge a1 (by omega)
  have g2 : e < 120 := by omega
  have gd : ¬ nI (B e) < nI 48 ∧ ¬ nI 57 < nI (B e) := by rw [dg_if (h4 _ a1)]; exact ⟨a2, a3⟩
  have e2 : nI (10 * v + B e) - nI 48 = nI (10 * v + (B e - 48)) := by rw [nI_subN (by omega) (by omega)]; congr 1; omega
  rw [e_X7_nextToken_33]
  by_cases z : 99 < v
  · have g3 : ¬ nI v ≤ nI 99 := nI_ge z (by omega)
    rw [if_pos z]
    simp only [e_X7_nextToken_0, e_X7_nextToken_1, e_X7_nextToken_2, e_X7_nextToken_5, e_X7_nextToken_8, e_X7_nextToken_9, e_X7_nextToken_10, e_X7_nextToken_13, e_X7_nextToken_14, e_X7_nextToken_17, e_X7_nextToken_20, e_X7_nextToken_21, e_X7_nextToken_24, e_X7_nextToken_25, e_X7_nextToken_28, e_X7_nextToken_29, e_X7_nextToken_30, e_X7_nextToken_34, e_X7_nextToken_37, e_X7_nextToken_38, e_X7_nextToken_41, e_X7_nextToken_44, e_X7_nextToken_45, e_X7_nextToken_48, e_X7_nextToken_49, e_X7_nextToken_52, e_X7_nextToken_53, e_X7_nextToken_54, e_X7_nextToken_57, e_X7_nextToken_60, e_X7_nextToken_63, e_X7_nextToken_66, e_X7_nextToken_67, e_X7_nextToken_68, e_X7_nextToken_71, e_X7_nextToken_73, e_X7_nextToken_76, e_X7_nextToken_77, e_X7_nextToken_80, e_X7_nextToken_83, e_X7_nextToken_85, e_X7_nextToken_86, e_X7_nextToken_89, e_X7_nextToken_90, e_X7_nextToken_91, e_X7_nextToken_94, e_X7_nextToken_95, e_X7_nextToken_98, e_X7_nextToken_99, e_X7_nextToken_100, e_X7_nextToken_102, e_X7_nextToken_103, e_X7_nextToken_106, e_X7_nextToken_107, e_X7_nextToken_108, e_X7_nextToken_111, e_X7_nextToken_112, e_X7_nextToken_113, e_X7_nextToken_116, e_X7_nextToken_119, e_X7_nextToken_120, e_X7_nextToken_123, e_X7_nextToken_124, e_X7_nextToken_127, e_X7_nextToken_130, e_X7_nextToken_131, e_X7_nextToken_132, e_X7_nextToken_135, e_X7_nextToken_136, e_X7_nextToken_139, e_X7_nextToken_140, e_X7_nextToken_141, e_X7_nextToken_144, e_X7_nextToken_145, e_X7_nextToken_148, e_X7_nextToken_149, e_X7_nextToken_152, e_X7_nextToken_155, e_X7_nextToken_156, e_X7_nextToken_159, e_X7_nextToken_162, e_X7_nextToken_163, e_X7_nextToken_164, e_X7_nextToken_167, e_X7_nextToken_168, e_X7_nextToken_171, e_X7_nextToken_172, e_X7_nextToken_175, e_X7_nextToken_176, e_X7_nextToken_177, e_X7_nextToken_180, e_X7_nextToken_181, e_X7_nextToken_184, e_X7_nextToken_187, e_X7_nextToken_190, e_X7_nextToken_193, e_X7_nextToken_194, e_X7_nextToken_197, e_X7_nextToken_199, e_X7_nextToken_202, e_X7_nextToken_203, e_X7_nextToken_206, e_X7_nextToken_208, e_X7_nextToken_211, e_X7_nextToken_212, e_X7_nextToken_215, e_X7_nextToken_216, e_X7_nextToken_219, e_X7_nextToken_220, e_X7_nextToken_221, e_X7_nextToken_224, e_X7_nextToken_225, e_X7_nextToken_226, e_X7_nextToken_229, ms_10, ms_8, ms_12, ms_tp, h1, g1, if_false, g2, h3 _ a1, in_dg, if_pos gd, jm_bd_v, bv1, g3, ms_u12, nI_add, ms_u10]
  · have g3 : nI v ≤ nI 99 := nI_le (by omega) (by omega)
    rw [if_neg z]
    simp only [e_X7_nextToken_0, e_X7_nextToken_1, e_X7_nextToken_2, e_X7_nextToken_5, e_X7_nextToken_8, e_X7_nextToken_9, e_X7_nextToken_10, e_X7_nextToken_13, e_X7_nextToken_14, e_X7_nextToken_17, e_X7_nextToken_20, e_X7_nextToken_21, e_X7_nextToken_24, e_X7_nextToken_25, e_X7_nextToken_28, e_X7_nextToken_29, e_X7_nextToken_30, e_X7_nextToken_34, e_X7_nextToken_37, e_X7_nextToken_38, e_X7_nextToken_41, e_X7_nextToken_44, e_X7_nextToken_45, e_X7_nextToken_48, e_X7_nextToken_49, e_X7_nextToken_52, e_X7_nextToken_53, e_X7_nextToken_54, e_X7_nextToken_57, e_X7_nextToken_60, e_X7_nextToken_63, e_X7_nextToken_66, e_X7_nextToken_67, e_X7_nextToken_68, e_X7_nextToken_71, e_X7_nextToken_73, e_X7_nextToken_76, e_X7_nextToken_77, e_X7_nextToken_80, e_X7_nextToken_83, e_X7_nextToken_85, e_X7_nextToken_86, e_X7_nextToken_89, e_X7_nextToken_90, e_X7_nextToken_91, e_X7_nextToken_94, e_X7_nextToken_95, e_X7_nextToken_98, e_X7_nextToken_99, e_X7_nextToken_100, e_X7_nextToken_102, e_X7_nextToken_103, e_X7_nextToken_106, e_X7_nextToken_107, e_X7_nextToken_108, e_X7_nextToken_111, e_X7_nextToken_112, e_X7_nextToken_113, e_X7_nextToken_116, e_X7_nextToken_119, e_X7_nextToken_120, e_X7_nextToken_123, e_X7_nextToken_124, e_X7_nextToken_127, e_X7_nextToken_130, e_X7_nextToken_131, e_X7_nextToken_132, e_X7_nextToken_135, e_X7_nextToken_136, e_X7_nextToken_139, e_X7_nextToken_140, e_X7_nextToken_141, e_X7_nextToken_144, e_X7_nextToken_145, e_X7_nextToken_148, e_X7_nextToken_149, e_X7_nextToken_152, e_X7_nextToken_155, e_X7_nextToken_156, e_X7_nextToken_159, e_X7_nextToken_162, e_X7_nextToken_163, e_X7_nextToken_164, e_X7_nextToken_167, e_X7_nextToken_168, e_X7_nextToken_171, e_X7_nextToken_172, e_X7_nextToken_175, e_X7_nextToken_176, e_X7_nextToken_177, e_X7_nextToken_180, e_X7_nextToken_181, e_X7_nextToken_184, e_X7_nextToken_187, e_X7_nextToken_190, e_X7_nextToken_193, e_X7_nextToken_194, e_X7_nextToken_197, e_X7_nextToken_199, e_X7_nextToken_202, e_X7_nextToken_203, e_X7_nextToken_206, e_X7_nextToken_208, e_X7_nextToken_211, e_X7_nextToken_212, e_X7_nextToken_215, e_X7_nextToken_216, e_X7_nextToken_219, e_X7_nextToken_220, e_X7_nextToken_221, e_X7_nextToken_224, e_X7_nextToken_225, e_X7_nextToken_226, e_X7_nextToken_229, ms_10, ms_8, ms_12, ms_tp, h1, g1, if_false, g2, h3 _ a1, in_dg, if_pos gd, jm_bd_v, bv1, g3, if_true, nI_mulN, nI_add, e2, ms_u12, ms_u10]
theorem nt_stop (hT : MT m k B) {e : Nat} {v : Int32} (he : e ≤ k) (h : ¬ dg B k e) : jm_R (d + 1) md_X7_nextToken 33 [.ref 217] [] (jm_mk (ms m b t v (nI e) w rd)) = jm_R (d + 1) md_X7_nextToken 119 [.ref 217] [] (jm_mk (ms m b t v (nI e) w rd)) := by
  obtain ⟨h1, h2, h3, h4⟩ := hT
  rw [e_X7_nextToken_33]
  by_cases a1 : e < k
  · have g1 : ¬ nI k ≤ nI e := nI_ge a1 (by omega)
    have g2 : e < 120 := by omega
    have gd : ¬ (¬ nI (B e) < nI 48 ∧ ¬ nI 57 < nI (B e)) := by rw [dg_if (h4 _ a1)]; exact fun q => h ⟨a1, q⟩
    simp only [e_X7_nextToken_0, e_X7_nextToken_1, e_X7_nextToken_2, e_X7_nextToken_5, e_X7_nextToken_8, e_X7_nextToken_9, e_X7_nextToken_10, e_X7_nextToken_13, e_X7_nextToken_14, e_X7_nextToken_17, e_X7_nextToken_20, e_X7_nextToken_21, e_X7_nextToken_24, e_X7_nextToken_25, e_X7_nextToken_28, e_X7_nextToken_29, e_X7_nextToken_30, e_X7_nextToken_34, e_X7_nextToken_37, e_X7_nextToken_38, e_X7_nextToken_41, e_X7_nextToken_44, e_X7_nextToken_45, e_X7_nextToken_48, e_X7_nextToken_49, e_X7_nextToken_52, e_X7_nextToken_53, e_X7_nextToken_54, e_X7_nextToken_57, e_X7_nextToken_60, e_X7_nextToken_63, e_X7_nextToken_66, e_X7_nextToken_67, e_X7_nextToken_68, e_X7_nextToken_71, e_X7_nextToken_73, e_X7_nextToken_76, e_X7_nextToken_77, e_X7_nextToken_80, e_X7_nextToken_83, e_X7_nextToken_85, e_X7_nextToken_86, e_X7_nextToken_89, e_X7_nextToken_90, e_X7_nextToken_91, e_X7_nextToken_94, e_X7_nextToken_95, e_X7_nextToken_98, e_X7_nextToken_99, e_X7_nextToken_100, e_X7_nextToken_102, e_X7_nextToken_103, e_X7_nextToken_106, e_X7_nextToken_107, e_X7_nextToken_108, e_X7_nextToken_111, e_X7_nextToken_112, e_X7_nextToken_113, e_X7_nextToken_116, e_X7_nextToken_120, e_X7_nextToken_123, e_X7_nextToken_124, e_X7_nextToken_127, e_X7_nextToken_130, e_X7_nextToken_131, e_X7_nextToken_132, e_X7_nextToken_135, e_X7_nextToken_136, e_X7_nextToken_139, e_X7_nextToken_140, e_X7_nextToken_141, e_X7_nextToken_144, e_X7_nextToken_145, e_X7_nextToken_148, e_X7_nextToken_149, e_X7_nextToken_152, e_X7_nextToken_155, e_X7_nextToken_156, e_X7_nextToken_159, e_X7_nextToken_162, e_X7_nextToken_163, e_X7_nextToken_164, e_X7_nextToken_167, e_X7_nextToken_168, e_X7_nextToken_171, e_X7_nextToken_172, e_X7_nextToken_175, e_X7_nextToken_176, e_X7_nextToken_177, e_X7_nextToken_180, e_X7_nextToken_181, e_X7_nextToken_184, e_X7_nextToken_187, e_X7_nextToken_190, e_X7_nextToken_193, e_X7_nextToken_194, e_X7_nextToken_197, e_X7_nextToken_199, e_X7_nextToken_202, e_X7_nextToken_203, e_X7_nextToken_206, e_X7_nextToken_208, e_X7_nextToken_211, e_X7_nextToken_212, e_X7_nextToken_215, e_X7_nextToken_216, e_X7_nextToken_219, e_X7_nextToken_220, e_X7_nextToken_221, e_X7_nextToken_224, e_X7_nextToken_225, e_X7_nextToken_226, e_X7_nextToken_229, ms_10, ms_8, ms_tp, h1, g1, if_false, g2, h3 _ a1, in_dg, if_neg gd, jm_bd_v, if_true]
  · have g1 : nI k ≤ nI e := nI_le (by omega) (by omega)
    simp only [e_X7_nextToken_0, e_X7_nextToken_1, e_X7_nextToken_2, e_X7_nextToken_5, e_X7_nextToken_8, e_X7_nextToken_9, e_X7_nextToken_10, e_X7_nextToken_13, e_X7_nextToken_14, e_X7_nextToken_17, e_X7_nextToken_20, e_X7_nextToken_21, e_X7_nextToken_24, e_X7_nextToken_25, e_X7_nextToken_28, e_X7_nextToken_29, e_X7_nextToken_30, e_X7_nextToken_34, e_X7_nextToken_37, e_X7_nextToken_38, e_X7_nextToken_41, e_X7_nextToken_44, e_X7_nextToken_45, e_X7_nextToken_48, e_X7_nextToken_49, e_X7_nextToken_52, e_X7_nextToken_53, e_X7_nextToken_54, e_X7_nextToken_57, e_X7_nextToken_60, e_X7_nextToken_63, e_X7_nextToken_66, e_X7_nextToken_67, e_X7_nextToken_68, e_X7_nextToken_71, e_X7_nextToken_73, e_X7_nextToken_76, e_X7_nextToken_77, e_X7_nextToken_80, e_X7_nextToken_83, e_X7_nextToken_85, e_X7_nextToken_86, e_X7_nextToken_89, e_X7_nextToken_90, e_X7_nextToken_91, e_X7_nextToken_94, e_X7_nextToken_95, e_X7_nextToken_98, e_X7_nextToken_99, e_X7_nextToken_100, e_X7_nextToken_102, e_X7_nextToken_103, e_X7_nextToken_106, e_X7_nextToken_107, e_X7_nextToken_108, e_X7_nextToken_111, e_X7_nextToken_112, e_X7_nextToken_113, e_X7_nextToken_116, e_X7_nextToken_120, e_X7_nextToken_123, e_X7_nextToken_124, e_X7_nextToken_127, e_X7_nextToken_130, e_X7_nextToken_131, e_X7_nextToken_132, e_X7_nextToken_135, e_X7_nextToken_136, e_X7_nextToken_139, e_X7_nextToken_140, e_X7_nextToken_141, e_X7_nextToken_144, e_X7_nextToken_145, e_X7_nextToken_148, e_X7_nextToken_149, e_X7_nextToken_152, e_X7_nextToken_155, e_X7_nextToken_156, e_X7_nextToken_159, e_X7_nextToken_162, e_X7_nextToken_163, e_X7_nextToken_164, e_X7_nextToken_167, e_X7_nextToken_168, e_X7_nextToken_171, e_X7_nextToken_172, e_X7_nextToken_175, e_X7_nextToken_176, e_X7_nextToken_177, e_X7_nextToken_180, e_X7_nextToken_181, e_X7_nextToken_184, e_X7_nextToken_187, e_X7_nextToken_190, e_X7_nextToken_193, e_X7_nextToken_194, e_X7_nextToken_197, e_X7_nextToken_199, e_X7_nextToken_202, e_X7_nextToken_203, e_X7_nextToken_206, e_X7_nextToken_208, e_X7_nextToken_211, e_X7_nextToken_212, e_X7_nextToken_215, e_X7_nextToken_216, e_X7_nextToken_219, e_X7_nextToken_220, e_X7_nextToken_221, e_X7_nextToken_224, e_X7_nextToken_225, e_X7_nextToken_226, e_X7_nextToken_229, ms_10, ms_8, h1, g1, if_true]
theorem nt_run : ∀ (f e v : Nat), e + f = k → v < 1000 → ∃ e' v', e ≤ e' ∧ e' ≤ k ∧ ∀ (d : Nat) (m : Nat → Nat → Int32) (b t w : Int32) (rd : Nat → Int32), MT m k B → jm_R (d + 1) md_X7_nextToken 33 [.ref 217] [] (jm_mk (ms m b t (nI v) (nI e) w rd)) = jm_R (d + 1) md_X7_nextToken 119 [.ref 217] [] (jm_mk (ms m b t (nI v') (nI e') w rd)) := by
  intro f
  induction f with
  | zero =>
    intro e v h hv
    exact ⟨e, v, Nat.le_refl _, by omega, fun d m b t w rd hT => nt_stop hT (by omega) (fun q => by have := q.1; omega)⟩
  | succ f ih =>
    intro e v h hv
    by_cases q : dg B k e
    · have := q.2.2
      obtain ⟨e', v', h1, h2, h3⟩ := ih (e + 1) (if 99 < v then v else 10 * v + (B e - 48)) (by omega) (by
        by_cases z : 99 < v
        · rw [if_pos z]; exact hv
        · rw [if_neg z]; omega)
      exact ⟨e', v', by omega, h2, fun d m b t w rd hT => (nt_step hT hv q).trans (h3 d m b t w rd hT)⟩
    · exact ⟨e, v, Nat.le_refl _, by omega, fun d m b t w rd hT => nt_stop hT (by omega) q⟩
/-- the end, if digits were read -/
theorem nt_num {e : Nat} {v : Int32} (h : p < e) (he : e ≤ 120) : jm_R d md_X7_nextToken 119 [.ref 217] [] (jm_mk (ms m (nI p) t v (nI e) w rd)) = some (none, jm_mk (ms m (nI p) (nI (if 2 < e - p then 0 else 2)) v (nI e) w rd)) := by
  have g1 : ¬ nI e ≤ nI p := nI_ge h (by omega)
  have e1 : nI e - nI p = nI (e - p) := nI_subN (by omega) (by omega)
  by_cases z : 2 < e - p
  · have g2 : ¬ nI (e - p) ≤ nI 2 := nI_ge z (by omega)
    rw [if_pos z]
    simp only [e_X7_nextToken_0, e_X7_nextToken_1, e_X7_nextToken_2, e_X7_nextToken_5, e_X7_nextToken_8, e_X7_nextToken_9, e_X7_nextToken_10, e_X7_nextToken_13, e_X7_nextToken_14, e_X7_nextToken_17, e_X7_nextToken_20, e_X7_nextToken_21, e_X7_nextToken_24, e_X7_nextToken_25, e_X7_nextToken_28, e_X7_nextToken_29, e_X7_nextToken_30, e_X7_nextToken_34, e_X7_nextToken_37, e_X7_nextToken_38, e_X7_nextToken_41, e_X7_nextToken_44, e_X7_nextToken_45, e_X7_nextToken_48, e_X7_nextToken_49, e_X7_nextToken_52, e_X7_nextToken_53, e_X7_nextToken_54, e_X7_nextToken_57, e_X7_nextToken_60, e_X7_nextToken_63, e_X7_nextToken_66, e_X7_nextToken_67, e_X7_nextToken_68, e_X7_nextToken_71, e_X7_nextToken_73, e_X7_nextToken_76, e_X7_nextToken_77, e_X7_nextToken_80, e_X7_nextToken_83, e_X7_nextToken_85, e_X7_nextToken_86, e_X7_nextToken_89, e_X7_nextToken_90, e_X7_nextToken_91, e_X7_nextToken_94, e_X7_nextToken_95, e_X7_nextToken_98, e_X7_nextToken_99, e_X7_nextToken_100, e_X7_nextToken_102, e_X7_nextToken_103, e_X7_nextToken_106, e_X7_nextToken_107, e_X7_nextToken_108, e_X7_nextToken_111, e_X7_nextToken_112, e_X7_nextToken_113, e_X7_nextToken_116, e_X7_nextToken_119, e_X7_nextToken_120, e_X7_nextToken_123, e_X7_nextToken_124, e_X7_nextToken_127, e_X7_nextToken_130, e_X7_nextToken_131, e_X7_nextToken_132, e_X7_nextToken_135, e_X7_nextToken_136, e_X7_nextToken_139, e_X7_nextToken_140, e_X7_nextToken_141, e_X7_nextToken_144, e_X7_nextToken_145, e_X7_nextToken_148, e_X7_nextToken_149, e_X7_nextToken_152, e_X7_nextToken_155, e_X7_nextToken_156, e_X7_nextToken_159, e_X7_nextToken_162, e_X7_nextToken_163, e_X7_nextToken_164, e_X7_nextToken_167, e_X7_nextToken_168, e_X7_nextToken_171, e_X7_nextToken_172, e_X7_nextToken_175, e_X7_nextToken_176, e_X7_nextToken_177, e_X7_nextToken_180, e_X7_nextToken_181, e_X7_nextToken_184, e_X7_nextToken_187, e_X7_nextToken_190, e_X7_nextToken_193, e_X7_nextToken_194, e_X7_nextToken_197, e_X7_nextToken_199, e_X7_nextToken_202, e_X7_nextToken_203, e_X7_nextToken_206, e_X7_nextToken_208, e_X7_nextToken_211, e_X7_nextToken_212, e_X7_nextToken_215, e_X7_nextToken_216, e_X7_nextToken_219, e_X7_nextToken_220, e_X7_nextToken_221, e_X7_nextToken_224, e_X7_nextToken_225, e_X7_nextToken_226, e_X7_nextToken_229, ms_10, ms_13, g1, if_false, e1, g2, ms_u11]
  · have g2 : nI (e - p) ≤ nI 2 := nI_le (by omega) (by omega)
    rw [if_neg z]
    simp only [e_X7_nextToken_0, e_X7_nextToken_1, e_X7_nextToken_2, e_X7_nextToken_5, e_X7_nextToken_8, e_X7_nextToken_9, e_X7_nextToken_10, e_X7_nextToken_13, e_X7_nextToken_14, e_X7_nextToken_17, e_X7_nextToken_20, e_X7_nextToken_21, e_X7_nextToken_24, e_X7_nextToken_25, e_X7_nextToken_28, e_X7_nextToken_29, e_X7_nextToken_30, e_X7_nextToken_34, e_X7_nextToken_37, e_X7_nextToken_38, e_X7_nextToken_41, e_X7_nextToken_44, e_X7_nextToken_45, e_X7_nextToken_48, e_X7_nextToken_49, e_X7_nextToken_52, e_X7_nextToken_53, e_X7_nextToken_54, e_X7_nextToken_57, e_X7_nextToken_60, e_X7_nextToken_63, e_X7_nextToken_66, e_X7_nextToken_67, e_X7_nextToken_68, e_X7_nextToken_71, e_X7_nextToken_73, e_X7_nextToken_76, e_X7_nextToken_77, e_X7_nextToken_80, e_X7_nextToken_83, e_X7_nextToken_85, e_X7_nextToken_86, e_X7_nextToken_89, e_X7_nextToken_90, e_X7_nextToken_91, e_X7_nextToken_94, e_X7_nextToken_95, e_X7_nextToken_98, e_X7_nextToken_99, e_X7_nextToken_100, e_X7_nextToken_102, e_X7_nextToken_103, e_X7_nextToken_106, e_X7_nextToken_107, e_X7_nextToken_108, e_X7_nextToken_111, e_X7_nextToken_112, e_X7_nextToken_113, e_X7_nextToken_116, e_X7_nextToken_119, e_X7_nextToken_120, e_X7_nextToken_123, e_X7_nextToken_124, e_X7_nextToken_127, e_X7_nextToken_130, e_X7_nextToken_131, e_X7_nextToken_132, e_X7_nextToken_135, e_X7_nextToken_136, e_X7_nextToken_139, e_X7_nextToken_140, e_X7_nextToken_141, e_X7_nextToken_144, e_X7_nextToken_145, e_X7_nextToken_148, e_X7_nextToken_149, e_X7_nextToken_152, e_X7_nextToken_155, e_X7_nextToken_156, e_X7_nextToken_159, e_X7_nextToken_162, e_X7_nextToken_163, e_X7_nextToken_164, e_X7_nextToken_167, e_X7_nextToken_168, e_X7_nextToken_171, e_X7_nextToken_172, e_X7_nextToken_175, e_X7_nextToken_176, e_X7_nextToken_177, e_X7_nextToken_180, e_X7_nextToken_181, e_X7_nextToken_184, e_X7_nextToken_187, e_X7_nextToken_190, e_X7_nextToken_193, e_X7_nextToken_194, e_X7_nextToken_197, e_X7_nextToken_199, e_X7_nextToken_202, e_X7_nextToken_203, e_X7_nextToken_206, e_X7_nextToken_208, e_X7_nextToken_211, e_X7_nextToken_212, e_X7_nextToken_215, e_X7_nextToken_216, e_X7_nextToken_219, e_X7_nextToken_220, e_X7_nextToken_221, e_X7_nextToken_224, e_X7_nextToken_225, e_X7_nextToken_226, e_X7_nextToken_229, ms_10, ms_13, g1, if_false, e1, g2, if_true, ms_u11]
theorem nt_end {v : Int32} : jm_R d md_X7_nextToken 119 [.ref 217] [] (jm_mk (ms m (nI p) (nI 3) v (nI p) w rd)) = some (none, jm_mk (ms m (nI p) (nI 3) v (nI p) w rd)) := by
  have g1 : nI p ≤ nI p := Int32.le_refl _
  have g2 : ¬ nI 3 = nI 0 := by decide
  simp only [e_X7_nextToken_0, e_X7_nextToken_1, e_X7_nextToken_2, e_X7_nextToken_5, e_X7_nextToken_8, e_X7_nextToken_9, e_X7_nextToken_10, e_X7_nextToken_13, e_X7_nextToken_14, e_X7_nextToken_17, e_X7_nextToken_20, e_X7_nextToken_21, e_X7_nextToken_24, e_X7_nextToken_25, e_X7_nextToken_28, e_X7_nextToken_29, e_X7_nextToken_30, e_X7_nextToken_34, e_X7_nextToken_37, e_X7_nextToken_38, e_X7_nextToken_41, e_X7_nextToken_44, e_X7_nextToken_45, e_X7_nextToken_48, e_X7_nextToken_49, e_X7_nextToken_52, e_X7_nextToken_53, e_X7_nextToken_54, e_X7_nextToken_57, e_X7_nextToken_60, e_X7_nextToken_63, e_X7_nextToken_66, e_X7_nextToken_67, e_X7_nextToken_68, e_X7_nextToken_71, e_X7_nextToken_73, e_X7_nextToken_76, e_X7_nextToken_77, e_X7_nextToken_80, e_X7_nextToken_83, e_X7_nextToken_85, e_X7_nextToken_86, e_X7_nextToken_89, e_X7_nextToken_90, e_X7_nextToken_91, e_X7_nextToken_94, e_X7_nextToken_95, e_X7_nextToken_98, e_X7_nextToken_99, e_X7_nextToken_100, e_X7_nextToken_102, e_X7_nextToken_103, e_X7_nextToken_106, e_X7_nextToken_107, e_X7_nextToken_108, e_X7_nextToken_111, e_X7_nextToken_112, e_X7_nextToken_113, e_X7_nextToken_116, e_X7_nextToken_119, e_X7_nextToken_120, e_X7_nextToken_123, e_X7_nextToken_124, e_X7_nextToken_127, e_X7_nextToken_130, e_X7_nextToken_131, e_X7_nextToken_132, e_X7_nextToken_135, e_X7_nextToken_136, e_X7_nextToken_139, e_X7_nextToken_140, e_X7_nextToken_141, e_X7_nextToken_144, e_X7_nextToken_145, e_X7_nextToken_148, e_X7_nextToken_149, e_X7_nextToken_152, e_X7_nextToken_155, e_X7_nextToken_156, e_X7_nextToken_159, e_X7_nextToken_162, e_X7_nextToken_163, e_X7_nextToken_164, e_X7_nextToken_167, e_X7_nextToken_168, e_X7_nextToken_171, e_X7_nextToken_172, e_X7_nextToken_175, e_X7_nextToken_176, e_X7_nextToken_177, e_X7_nextToken_180, e_X7_nextToken_181, e_X7_nextToken_184, e_X7_nextToken_187, e_X7_nextToken_190, e_X7_nextToken_193, e_X7_nextToken_194, e_X7_nextToken_197, e_X7_nextToken_199, e_X7_nextToken_202, e_X7_nextToken_203, e_X7_nextToken_206, e_X7_nextToken_208, e_X7_nextToken_211, e_X7_nextToken_212, e_X7_nextToken_215, e_X7_nextToken_216, e_X7_nextToken_219, e_X7_nextToken_220, e_X7_nextToken_221, e_X7_nextToken_224, e_X7_nextToken_225, e_X7_nextToken_226, e_X7_nextToken_229, ms_10, ms_13, ms_11, g1, if_true, g2, not_false_eq_true]
theorem nt_sgn (hT : MT m k B) {v : Int32} (h : p < k) : ∃ t', (t' = 0 ∨ t' = 1) ∧ (t' = 1 ↔ sgn (B p)) ∧ jm_R (d + 1) md_X7_nextToken 119 [.ref 217] [] (jm_mk (ms m (nI p) (nI 0) v (nI p) w rd)) = some (none, jm_mk (ms m (nI p) (nI t') (nI (B p)) (nI (p + 1)) w rd)) := by
  obtain ⟨h1, h2, h3, h4⟩ := hT
  have hb := h4 p h
  have g1 : nI p ≤ nI p := Int32.le_refl _
  have g2 : p < 120 := by omega
  have q1 : (¬ nI (B p) < nI 97 ∧ ¬ nI 122 < nI (B p)) = (97 ≤ B p ∧ B p ≤ 122) := by
    rw [nI_ltI (by omega) (by omega), nI_ltI (by omega) (by omega)]
    exact propext ⟨fun h => by omega, fun h => by omega⟩
  have q2 : (nI (B p) = nI 44) = (B p = 44) := propext (nI_eq (by omega) (by omega))
  have q3 : (nI (B p) = nI 59) = (B p = 59) := propext (nI_eq (by omega) (by omega))
  by_cases z1 : 97 ≤ B p ∧ B p ≤ 122
  · refine ⟨1, Or.inr rfl, ⟨fun _ => Or.inl z1, fun _ => rfl⟩, ?_⟩
    have z1' : ¬ nI (B p) < nI 97 ∧ ¬ nI 122 < nI (B p) := by rw [q1]; exact z1
    simp only [e_X7_nextToken_0, e_X7_nextToken_1, e_X7_nextToken_2, e_X7_nextToken_5, e_X7_nextToken_8, e_X7_nextToken_9, e_X7_nextToken_10, e_X7_nextToken_13, e_X7_nextToken_14, e_X7_nextToken_17, e_X7_nextToken_20, e_X7_nextToken_21, e_X7_nextToken_24, e_X7_nextToken_25, e_X7_nextToken_28, e_X7_nextToken_29, e_X7_nextToken_30, e_X7_nextToken_34, e_X7_nextToken_37, e_X7_nextToken_38, e_X7_nextToken_41, e_X7_nextToken_44, e_X7_nextToken_45, e_X7_nextToken_48, e_X7_nextToken_49, e_X7_nextToken_52, e_X7_nextToken_53, e_X7_nextToken_54, e_X7_nextToken_57, e_X7_nextToken_60, e_X7_nextToken_63, e_X7_nextToken_66, e_X7_nextToken_67, e_X7_nextToken_68, e_X7_nextToken_71, e_X7_nextToken_73, e_X7_nextToken_76, e_X7_nextToken_77, e_X7_nextToken_80, e_X7_nextToken_83, e_X7_nextToken_85, e_X7_nextToken_86, e_X7_nextToken_89, e_X7_nextToken_90, e_X7_nextToken_91, e_X7_nextToken_94, e_X7_nextToken_95, e_X7_nextToken_98, e_X7_nextToken_99, e_X7_nextToken_100, e_X7_nextToken_102, e_X7_nextToken_103, e_X7_nextToken_106, e_X7_nextToken_107, e_X7_nextToken_108, e_X7_nextToken_111, e_X7_nextToken_112, e_X7_nextToken_113, e_X7_nextToken_116, e_X7_nextToken_119, e_X7_nextToken_120, e_X7_nextToken_123, e_X7_nextToken_124, e_X7_nextToken_127, e_X7_nextToken_130, e_X7_nextToken_131, e_X7_nextToken_132, e_X7_nextToken_135, e_X7_nextToken_136, e_X7_nextToken_139, e_X7_nextToken_140, e_X7_nextToken_141, e_X7_nextToken_144, e_X7_nextToken_145, e_X7_nextToken_148, e_X7_nextToken_149, e_X7_nextToken_152, e_X7_nextToken_155, e_X7_nextToken_156, e_X7_nextToken_159, e_X7_nextToken_162, e_X7_nextToken_163, e_X7_nextToken_164, e_X7_nextToken_167, e_X7_nextToken_168, e_X7_nextToken_171, e_X7_nextToken_172, e_X7_nextToken_175, e_X7_nextToken_176, e_X7_nextToken_177, e_X7_nextToken_180, e_X7_nextToken_181, e_X7_nextToken_184, e_X7_nextToken_187, e_X7_nextToken_190, e_X7_nextToken_193, e_X7_nextToken_194, e_X7_nextToken_197, e_X7_nextToken_199, e_X7_nextToken_202, e_X7_nextToken_203, e_X7_nextToken_206, e_X7_nextToken_208, e_X7_nextToken_211, e_X7_nextToken_212, e_X7_nextToken_215, e_X7_nextToken_216, e_X7_nextToken_219, e_X7_nextToken_220, e_X7_nextToken_221, e_X7_nextToken_224, e_X7_nextToken_225, e_X7_nextToken_226, e_X7_nextToken_229, ms_10, ms_13, ms_11, ms_12, ms_tp, g1, if_true, not_true_eq_false, if_false, g2, h3 p h, ms_u12, in_az, if_pos z1', jm_bd_v, bv1, not_false_eq_true, ms_u11, nI_add, ms_u10]
  · have z1' : ¬ (¬ nI (B p) < nI 97 ∧ ¬ nI 122 < nI (B p)) := by rw [q1]; exact z1
    by_cases z2 : B p = 44
    · refine ⟨1, Or.inr rfl, ⟨fun _ => Or.inr (Or.inl z2), fun _ => rfl⟩, ?_⟩
      simp only [e_X7_nextToken_0, e_X7_nextToken_1, e_X7_nextToken_2, e_X7_nextToken_5, e_X7_nextToken_8, e_X7_nextToken_9, e_X7_nextToken_10, e_X7_nextToken_13, e_X7_nextToken_14, e_X7_nextToken_17, e_X7_nextToken_20, e_X7_nextToken_21, e_X7_nextToken_24, e_X7_nextToken_25, e_X7_nextToken_28, e_X7_nextToken_29, e_X7_nextToken_30, e_X7_nextToken_34, e_X7_nextToken_37, e_X7_nextToken_38, e_X7_nextToken_41, e_X7_nextToken_44, e_X7_nextToken_45, e_X7_nextToken_48, e_X7_nextToken_49, e_X7_nextToken_52, e_X7_nextToken_53, e_X7_nextToken_54, e_X7_nextToken_57, e_X7_nextToken_60, e_X7_nextToken_63, e_X7_nextToken_66, e_X7_nextToken_67, e_X7_nextToken_68, e_X7_nextToken_71, e_X7_nextToken_73, e_X7_nextToken_76, e_X7_nextToken_77, e_X7_nextToken_80, e_X7_nextToken_83, e_X7_nextToken_85, e_X7_nextToken_86, e_X7_nextToken_89, e_X7_nextToken_90, e_X7_nextToken_91, e_X7_nextToken_94, e_X7_nextToken_95, e_X7_nextToken_98, e_X7_nextToken_99, e_X7_nextToken_100, e_X7_nextToken_102, e_X7_nextToken_103, e_X7_nextToken_106, e_X7_nextToken_107, e_X7_nextToken_108, e_X7_nextToken_111, e_X7_nextToken_112, e_X7_nextToken_113, e_X7_nextToken_116, e_X7_nextToken_119, e_X7_nextToken_120, e_X7_nextToken_123, e_X7_nextToken_124, e_X7_nextToken_127, e_X7_nextToken_130, e_X7_nextToken_131, e_X7_nextToken_132, e_X7_nextToken_135, e_X7_nextToken_136, e_X7_nextToken_139, e_X7_nextToken_140, e_X7_nextToken_141, e_X7_nextToken_144, e_X7_nextToken_145, e_X7_nextToken_148, e_X7_nextToken_149, e_X7_nextToken_152, e_X7_nextToken_155, e_X7_nextToken_156, e_X7_nextToken_159, e_X7_nextToken_162, e_X7_nextToken_163, e_X7_nextToken_164, e_X7_nextToken_167, e_X7_nextToken_168, e_X7_nextToken_171, e_X7_nextToken_172, e_X7_nextToken_175, e_X7_nextToken_176, e_X7_nextToken_177, e_X7_nextToken_180, e_X7_nextToken_181, e_X7_nextToken_184, e_X7_nextToken_187, e_X7_nextToken_190, e_X7_nextToken_193, e_X7_nextToken_194, e_X7_nextToken_197, e_X7_nextToken_199, e_X7_nextToken_202, e_X7_nextToken_203, e_X7_nextToken_206, e_X7_nextToken_208, e_X7_nextToken_211, e_X7_nextToken_212, e_X7_nextToken_215, e_X7_nextToken_216, e_X7_nextToken_219, e_X7_nextToken_220, e_X7_nextToken_221, e_X7_nextToken_224, e_X7_nextToken_225, e_X7_nextToken_226, e_X7_nextToken_229, ms_10, ms_13, ms_11, ms_12, ms_tp, g1, if_true, not_true_eq_false, if_false, g2, h3 p h, ms_u12, in_az, if_neg z1', jm_bd_v, q2, if_pos z2, ms_u11, nI_add, ms_u10]
    · by_cases z3 : B p = 59
      · refine ⟨1, Or.inr rfl, ⟨fun _ => Or.inr (Or.inr z3), fun _ => rfl⟩, ?_⟩
        simp only [e_X7_nextToken_0, e_X7_nextToken_1, e_X7_nextToken_2, e_X7_nextToken_5, e_X7_nextToken_8, e_X7_nextToken_9, e_X7_nextToken_10, e_X7_nextToken_13, e_X7_nextToken_14, e_X7_nextToken_17, e_X7_nextToken_20, e_X7_nextToken_21, e_X7_nextToken_24, e_X7_nextToken_25, e_X7_nextToken_28, e_X7_nextToken_29, e_X7_nextToken_30, e_X7_nextToken_34, e_X7_nextToken_37, e_X7_nextToken_38, e_X7_nextToken_41, e_X7_nextToken_44, e_X7_nextToken_45, e_X7_nextToken_48, e_X7_nextToken_49, e_X7_nextToken_52, e_X7_nextToken_53, e_X7_nextToken_54, e_X7_nextToken_57, e_X7_nextToken_60, e_X7_nextToken_63, e_X7_nextToken_66, e_X7_nextToken_67, e_X7_nextToken_68, e_X7_nextToken_71, e_X7_nextToken_73, e_X7_nextToken_76, e_X7_nextToken_77, e_X7_nextToken_80, e_X7_nextToken_83, e_X7_nextToken_85, e_X7_nextToken_86, e_X7_nextToken_89, e_X7_nextToken_90, e_X7_nextToken_91, e_X7_nextToken_94, e_X7_nextToken_95, e_X7_nextToken_98, e_X7_nextToken_99, e_X7_nextToken_100, e_X7_nextToken_102, e_X7_nextToken_103, e_X7_nextToken_106, e_X7_nextToken_107, e_X7_nextToken_108, e_X7_nextToken_111, e_X7_nextToken_112, e_X7_nextToken_113, e_X7_nextToken_116, e_X7_nextToken_119, e_X7_nextToken_120, e_X7_nextToken_123, e_X7_nextToken_124, e_X7_nextToken_127, e_X7_nextToken_130, e_X7_nextToken_131, e_X7_nextToken_132, e_X7_nextToken_135, e_X7_nextToken_136, e_X7_nextToken_139, e_X7_nextToken_140, e_X7_nextToken_141, e_X7_nextToken_144, e_X7_nextToken_145, e_X7_nextToken_148, e_X7_nextToken_149, e_X7_nextToken_152, e_X7_nextToken_155, e_X7_nextToken_156, e_X7_nextToken_159, e_X7_nextToken_162, e_X7_nextToken_163, e_X7_nextToken_164, e_X7_nextToken_167, e_X7_nextToken_168, e_X7_nextToken_171, e_X7_nextToken_172, e_X7_nextToken_175, e_X7_nextToken_176, e_X7_nextToken_177, e_X7_nextToken_180, e_X7_nextToken_181, e_X7_nextToken_184, e_X7_nextToken_187, e_X7_nextToken_190, e_X7_nextToken_193, e_X7_nextToken_194, e_X7_nextToken_197, e_X7_nextToken_199, e_X7_nextToken_202, e_X7_nextToken_203, e_X7_nextToken_206, e_X7_nextToken_208, e_X7_nextToken_211, e_X7_nextToken_212, e_X7_nextToken_215, e_X7_nextToken_216, e_X7_nextToken_219, e_X7_nextToken_220, e_X7_nextToken_221, e_X7_nextToken_224, e_X7_nextToken_225, e_X7_nextToken_226, e_X7_nextToken_229, ms_10, ms_13, ms_11, ms_12, ms_tp, g1, if_true, not_true_eq_false, if_false, g2, h3 p h, ms_u12, in_az, if_neg z1', jm_bd_v, q2, if_neg z2, q3, if_neg (show ¬ ¬ B p = 59 from fun h => h z3), ms_u11, nI_add, ms_u10]
      · refine ⟨0, Or.inl rfl, ⟨fun e => by omega, fun e => ?_⟩, ?_⟩
        · rcases e with e | e | e
          · exact absurd e z1
          · exact absurd e z2
          · exact absurd e z3
        · simp only [e_X7_nextToken_0, e_X7_nextToken_1, e_X7_nextToken_2, e_X7_nextToken_5, e_X7_nextToken_8, e_X7_nextToken_9, e_X7_nextToken_10, e_X7_nextToken_13, e_X7_nextToken_14, e_X7_nextToken_17, e_X7_nextToken_20, e_X7_nextToken_21, e_X7_nextToken_24, e_X7_nextToken_25, e_X7_nextToken_28, e_X7_nextToken_29, e_X7_nextToken_30, e_X7_nextToken_34, e_X7_nextToken_37, e_X7_nextToken_38, e_X7_nextToken_41, e_X7_nextToken_44, e_X7_nextToken_45, e_X7_nextToken_48, e_X7_nextToken_49, e_X7_nextToken_52, e_X7_nextToken_53, e_X7_nextToken_54, e_X7_nextToken_57, e_X7_nextToken_60, e_X7_nextToken_63, e_X7_nextToken_66, e_X7_nextToken_67, e_X7_nextToken_68, e_X7_nextToken_71, e_X7_nextToken_73, e_X7_nextToken_76, e_X7_nextToken_77, e_X7_nextToken_80, e_X7_nextToken_83, e_X7_nextToken_85, e_X7_nextToken_86, e_X7_nextToken_89, e_X7_nextToken_90, e_X7_nextToken_91, e_X7_nextToken_94, e_X7_nextToken_95, e_X7_nextToken_98, e_X7_nextToken_99, e_X7_nextToken_100, e_X7_nextToken_102, e_X7_nextToken_103, e_X7_nextToken_106, e_X7_nextToken_107, e_X7_nextToken_108, e_X7_nextToken_111, e_X7_nextToken_112, e_X7_nextToken_113, e_X7_nextToken_116, e_X7_nextToken_119, e_X7_nextToken_120, e_X7_nextToken_123, e_X7_nextToken_124, e_X7_nextToken_127, e_X7_nextToken_130, e_X7_nextToken_131, e_X7_nextToken_132, e_X7_nextToken_135, e_X7_nextToken_136, e_X7_nextToken_139, e_X7_nextToken_140, e_X7_nextToken_141, e_X7_nextToken_144, e_X7_nextToken_145, e_X7_nextToken_148, e_X7_nextToken_149, e_X7_nextToken_152, e_X7_nextToken_155, e_X7_nextToken_156, e_X7_nextToken_159, e_X7_nextToken_162, e_X7_nextToken_163, e_X7_nextToken_164, e_X7_nextToken_167, e_X7_nextToken_168, e_X7_nextToken_171, e_X7_nextToken_172, e_X7_nextToken_175, e_X7_nextToken_176, e_X7_nextToken_177, e_X7_nextToken_180, e_X7_nextToken_181, e_X7_nextToken_184, e_X7_nextToken_187, e_X7_nextToken_190, e_X7_nextToken_193, e_X7_nextToken_194, e_X7_nextToken_197, e_X7_nextToken_199, e_X7_nextToken_202, e_X7_nextToken_203, e_X7_nextToken_206, e_X7_nextToken_208, e_X7_nextToken_211, e_X7_nextToken_212, e_X7_nextToken_215, e_X7_nextToken_216, e_X7_nextToken_219, e_X7_nextToken_220, e_X7_nextToken_221, e_X7_nextToken_224, e_X7_nextToken_225, e_X7_nextToken_226, e_X7_nextToken_229, ms_10, ms_13, ms_11, ms_12, ms_tp, g1, if_true, not_true_eq_false, if_false, g2, h3 p h, ms_u12, in_az, if_neg z1', jm_bd_v, q2, if_neg z2, q3, if_pos z3, ms_u11, nI_add, ms_u10]
theorem nt_head (hT : MT m k B) (hp : p ≤ k) {v : Int32} : jm_K (d + 1) md_X7_nextToken [.ref 217] (jm_mk (ms m b t v (nI p) w rd)) = jm_R (d + 1) md_X7_nextToken 33 [.ref 217] [] (jm_mk (ms m (nI p) (nI (if p = k then 3 else 0)) (nI 0) (nI p) w rd)) := by
  obtain ⟨h1, h2, h3, h4⟩ := hT
  show jm_R (d + 1) md_X7_nextToken 0 [.ref 217] [] _ = _
  have q : (nI p = nI k) = (p = k) := propext (nI_eq (by omega) (by omega))
  by_cases z : p = k
  · rw [if_pos z]
    simp only [e_X7_nextToken_0, e_X7_nextToken_1, e_X7_nextToken_2, e_X7_nextToken_5, e_X7_nextToken_8, e_X7_nextToken_9, e_X7_nextToken_10, e_X7_nextToken_13, e_X7_nextToken_14, e_X7_nextToken_17, e_X7_nextToken_20, e_X7_nextToken_21, e_X7_nextToken_24, e_X7_nextToken_25, e_X7_nextToken_28, e_X7_nextToken_29, e_X7_nextToken_30, e_X7_nextToken_34, e_X7_nextToken_37, e_X7_nextToken_38, e_X7_nextToken_41, e_X7_nextToken_44, e_X7_nextToken_45, e_X7_nextToken_48, e_X7_nextToken_49, e_X7_nextToken_52, e_X7_nextToken_53, e_X7_nextToken_54, e_X7_nextToken_57, e_X7_nextToken_60, e_X7_nextToken_63, e_X7_nextToken_66, e_X7_nextToken_67, e_X7_nextToken_68, e_X7_nextToken_71, e_X7_nextToken_73, e_X7_nextToken_76, e_X7_nextToken_77, e_X7_nextToken_80, e_X7_nextToken_83, e_X7_nextToken_85, e_X7_nextToken_86, e_X7_nextToken_89, e_X7_nextToken_90, e_X7_nextToken_91, e_X7_nextToken_94, e_X7_nextToken_95, e_X7_nextToken_98, e_X7_nextToken_99, e_X7_nextToken_100, e_X7_nextToken_102, e_X7_nextToken_103, e_X7_nextToken_106, e_X7_nextToken_107, e_X7_nextToken_108, e_X7_nextToken_111, e_X7_nextToken_112, e_X7_nextToken_113, e_X7_nextToken_116, e_X7_nextToken_119, e_X7_nextToken_120, e_X7_nextToken_123, e_X7_nextToken_124, e_X7_nextToken_127, e_X7_nextToken_130, e_X7_nextToken_131, e_X7_nextToken_132, e_X7_nextToken_135, e_X7_nextToken_136, e_X7_nextToken_139, e_X7_nextToken_140, e_X7_nextToken_141, e_X7_nextToken_144, e_X7_nextToken_145, e_X7_nextToken_148, e_X7_nextToken_149, e_X7_nextToken_152, e_X7_nextToken_155, e_X7_nextToken_156, e_X7_nextToken_159, e_X7_nextToken_162, e_X7_nextToken_163, e_X7_nextToken_164, e_X7_nextToken_167, e_X7_nextToken_168, e_X7_nextToken_171, e_X7_nextToken_172, e_X7_nextToken_175, e_X7_nextToken_176, e_X7_nextToken_177, e_X7_nextToken_180, e_X7_nextToken_181, e_X7_nextToken_184, e_X7_nextToken_187, e_X7_nextToken_190, e_X7_nextToken_193, e_X7_nextToken_194, e_X7_nextToken_197, e_X7_nextToken_199, e_X7_nextToken_202, e_X7_nextToken_203, e_X7_nextToken_206, e_X7_nextToken_208, e_X7_nextToken_211, e_X7_nextToken_212, e_X7_nextToken_215, e_X7_nextToken_216, e_X7_nextToken_219, e_X7_nextToken_220, e_X7_nextToken_221, e_X7_nextToken_224, e_X7_nextToken_225, e_X7_nextToken_226, e_X7_nextToken_229, ms_10, ms_8, h1, q, z, not_true_eq_false, if_false, ms_u13, ms_u11, ms_u12]
  · rw [if_neg z]
    simp only [e_X7_nextToken_0, e_X7_nextToken_1, e_X7_nextToken_2, e_X7_nextToken_5, e_X7_nextToken_8, e_X7_nextToken_9, e_X7_nextToken_10, e_X7_nextToken_13, e_X7_nextToken_14, e_X7_nextToken_17, e_X7_nextToken_20, e_X7_nextToken_21, e_X7_nextToken_24, e_X7_nextToken_25, e_X7_nextToken_28, e_X7_nextToken_29, e_X7_nextToken_30, e_X7_nextToken_34, e_X7_nextToken_37, e_X7_nextToken_38, e_X7_nextToken_41, e_X7_nextToken_44, e_X7_nextToken_45, e_X7_nextToken_48, e_X7_nextToken_49, e_X7_nextToken_52, e_X7_nextToken_53, e_X7_nextToken_54, e_X7_nextToken_57, e_X7_nextToken_60, e_X7_nextToken_63, e_X7_nextToken_66, e_X7_nextToken_67, e_X7_nextToken_68, e_X7_nextToken_71, e_X7_nextToken_73, e_X7_nextToken_76, e_X7_nextToken_77, e_X7_nextToken_80, e_X7_nextToken_83, e_X7_nextToken_85, e_X7_nextToken_86, e_X7_nextToken_89, e_X7_nextToken_90, e_X7_nextToken_91, e_X7_nextToken_94, e_X7_nextToken_95, e_X7_nextToken_98, e_X7_nextToken_99, e_X7_nextToken_100, e_X7_nextToken_102, e_X7_nextToken_103, e_X7_nextToken_106, e_X7_nextToken_107, e_X7_nextToken_108, e_X7_nextToken_111, e_X7_nextToken_112, e_X7_nextToken_113, e_X7_nextToken_116, e_X7_nextToken_119, e_X7_nextToken_120, e_X7_nextToken_123, e_X7_nextToken_124, e_X7_nextToken_127, e_X7_nextToken_130, e_X7_nextToken_131, e_X7_nextToken_132, e_X7_nextToken_135, e_X7_nextToken_136, e_X7_nextToken_139, e_X7_nextToken_140, e_X7_nextToken_141, e_X7_nextToken_144, e_X7_nextToken_145, e_X7_nextToken_148, e_X7_nextToken_149, e_X7_nextToken_152, e_X7_nextToken_155, e_X7_nextToken_156, e_X7_nextToken_159, e_X7_nextToken_162, e_X7_nextToken_163, e_X7_nextToken_164, e_X7_nextToken_167, e_X7_nextToken_168, e_X7_nextToken_171, e_X7_nextToken_172, e_X7_nextToken_175, e_X7_nextToken_176, e_X7_nextToken_177, e_X7_nextToken_180, e_X7_nextToken_181, e_X7_nextToken_184, e_X7_nextToken_187, e_X7_nextToken_190, e_X7_nextToken_193, e_X7_nextToken_194, e_X7_nextToken_197, e_X7_nextToken_199, e_X7_nextToken_202, e_X7_nextToken_203, e_X7_nextToken_206, e_X7_nextToken_208, e_X7_nextToken_211, e_X7_nextToken_212, e_X7_nextToken_215, e_X7_nextToken_216, e_X7_nextToken_219, e_X7_nextToken_220, e_X7_nextToken_221, e_X7_nextToken_224, e_X7_nextToken_225, e_X7_nextToken_226, e_X7_nextToken_229, ms_10, ms_8, h1, q, z, not_false_eq_true, if_true, ms_u13, ms_u11, ms_u12]
def NT (B : Nat → Nat) (k p : Nat) (r : Nat × Nat × Nat) : Prop := ∀ (d : Nat) (m : Nat → Nat → Int32) (b t v w : Int32) (rd : Nat → Int32), MT m k B → jm_K (d + 1) md_X7_nextToken [.ref 217] (jm_mk (ms m b t v (nI p) w rd)) = some (none, jm_mk (ms m (nI p) (nI r.1) (nI r.2.1) (nI r.2.2) w rd))
theorem nt_ex (hk : k ≤ 120) (hp : p ≤ k) : ∃ r, TK B k p r ∧ NT B k p r := by
  by_cases z : p = k
  · refine ⟨(3, 0, p), Or.inl ⟨z, rfl⟩, fun d m b t v w rd hT => ?_⟩
    rw [nt_head hT hp, if_pos z, nt_stop hT hp (fun q => by have := q.1; omega)]
    exact nt_end
  · have hpk : p < k := by omega
    rcases nm_cases B k p with ⟨b, a⟩ | ⟨b, b1, a, c⟩ | ⟨b, b1, b2, a, c⟩ | ⟨b, b1, b2, a⟩
    · refine ⟨(if sgn (B p) then 1 else 0, B p, p + 1), Or.inr (Or.inr (Or.inr ⟨hpk, a, rfl, rfl, ?_, ?_⟩)), fun d m b' t v w rd hT => ?_⟩
      · by_cases s : sgn (B p)
        · exact Or.inr (if_pos s)
        · exact Or.inl (if_neg s)
      · by_cases s : sgn (B p)
        · exact ⟨fun _ => s, fun _ => if_pos s⟩
        · exact ⟨fun e => by dsimp only at e; rw [if_neg s] at e; omega, fun e => absurd e s⟩
      · obtain ⟨t', t1, t2, t3⟩ := nt_sgn (d := d) (w := w) (rd := rd) hT (v := nI 0) hpk
        rw [nt_head hT hp, if_neg z, nt_stop hT hp b, t3]
        have : t' = if sgn (B p) then 1 else 0 := by
          by_cases s : sgn (B p)
          · rw [if_pos s]; exact t2.mpr s
          · rw [if_neg s]
            rcases t1 with e | e
            · exact e
            · exact absurd (t2.mp e) s
        rw [this]
    · have := b.1
      have := b.2.2
      refine ⟨(2, nmV B k p, p + 1), Or.inr (Or.inl ⟨Or.inl a, rfl, rfl, by rw [a]⟩), fun d m b' t v w rd hT => ?_⟩
      rw [nt_head hT hp, if_neg z, nt_step hT (by decide) b, nt_stop hT (by omega) b1, nt_num (by omega) (by omega), if_neg (by omega), if_neg (by decide), c]
      dsimp only
      rw [show 10 * 0 + (B p - 48) = B p - 48 by omega]
    · have := b.1
      have := b1.1
      have := b.2.2
      have := b1.2.2
      refine ⟨(2, nmV B k p, p + 2), Or.inr (Or.inl ⟨Or.inr a, rfl, rfl, by rw [a]⟩), fun d m b' t v w rd hT => ?_⟩
      rw [nt_head hT hp, if_neg z, nt_step hT (by decide) b, if_neg (by decide), nt_step hT (by omega) b1, nt_stop hT (by omega) b2, nt_num (by omega) (by omega), if_neg (by omega), if_neg (by omega), c]
      dsimp only
      rw [show 10 * (10 * 0 + (B p - 48)) + (B (p + 1) - 48) = 10 * (B p - 48) + (B (p + 1) - 48) by omega]
    · have := b.1
      have := b1.1
      have := b2.1
      have := b.2.2
      have := b1.2.2
      have := b2.2.2
      obtain ⟨e', v', h1, h2, h3⟩ := nt_run (B := B) (k := k) (k - (p + 3)) (p + 3) (if 99 < 10 * (10 * 0 + (B p - 48)) + (B (p + 1) - 48) then 10 * (10 * 0 + (B p - 48)) + (B (p + 1) - 48) else 10 * (10 * (10 * 0 + (B p - 48)) + (B (p + 1) - 48)) + (B (p + 2) - 48)) (by omega) (by
        rw [if_neg (by omega)]; omega)
      refine ⟨(0, v', e'), Or.inr (Or.inr (Or.inl ⟨a, rfl⟩)), fun d m b' t v w rd hT => ?_⟩
      rw [nt_head hT hp, if_neg z, nt_step hT (by decide) b, if_neg (by decide), nt_step hT (by omega) b1, if_neg (by omega), nt_step hT (by omega) b2, h3 d m _ _ w rd hT, nt_num (by omega) (by omega), if_pos (by omega)]
noncomputable def lx (B : Nat → Nat) (k p : Nat) : Nat × Nat × Nat := @dite _ (k ≤ 120 ∧ p ≤ k) (Classical.propDecidable _) (fun h => (nt_ex (B := B) h.1 h.2).choose) (fun _ => (0, 0, 0))
theorem lx_spec (hk : k ≤ 120) (hp : p ≤ k) : TK B k p (lx B k p) ∧ NT B k p (lx B k p) := by
  unfold lx
  rw [dif_pos ⟨hk, hp⟩]
  exact (nt_ex (B := B) hk hp).choose_spec
/-- the reference with the token at p read -/
noncomputable def mt (B : Nat → Nat) (k : Nat) (m : Nat → Nat → Int32) (p : Nat) (w : Int32) (rd : Nat → Int32) : Nat → Nat → Int32 := ms m (nI p) (nI (lx B k p).1) (nI (lx B k p).2.1) (nI (lx B k p).2.2) w rd
theorem k_nt (hT : MT m k B) (hp : p ≤ k) {v : Int32} : jm_K (d + 1) md_X7_nextToken [.ref 217] (jm_mk (ms m b t v (nI p) w rd)) = some (none, jm_mk (mt B k m p w rd)) := (lx_spec hT.2.1 hp).2 d m b t v w rd hT
theorem tk_sgn {r : Nat × Nat × Nat} (h : TK B k p r) {c : Nat} (hc : sgn c) : (r.1 = 1 ∧ r.2.1 = c) ↔ (p < k ∧ B p = c) := by
  have hc' : ¬ (48 ≤ c ∧ c ≤ 57) := by
    rcases hc with e | e | e <;> omega
  rcases h with ⟨h1, h2⟩ | ⟨h1, h2, h3, h4⟩ | ⟨h1, h2⟩ | ⟨h1, h2, h3, h4, h5, h6⟩
  · exact ⟨fun e => by omega, fun e => by omega⟩
  · refine ⟨fun e => by omega, fun e => ?_⟩
    rcases nm_cases B k p with ⟨b, a⟩ | ⟨b, b1, a, c⟩ | ⟨b, b1, b2, a, c⟩ | ⟨b, b1, b2, a⟩
    · omega
    · exact absurd (by rw [← e.2]; exact b.2) hc'
    · exact absurd (by rw [← e.2]; exact b.2) hc'
    · omega
  · refine ⟨fun e => by omega, fun e => ?_⟩
    rcases nm_cases B k p with ⟨b, a⟩ | ⟨b, b1, a, c⟩ | ⟨b, b1, b2, a, c⟩ | ⟨b, b1, b2, a⟩
    · omega
    · omega
    · omega
    · exact absurd (by rw [← e.2]; exact b.2) hc'
  · refine ⟨fun e => ⟨h1, by rw [← h3]; exact e.2⟩, fun e => ⟨h6.mpr (by rw [e.2]; exact hc), by rw [h3]; exact e.2⟩⟩
theorem tk_q {r : Nat × Nat × Nat} (h : TK B k p r) (h1 : r.1 = 1) : r.2.2 = p + 1 := by
  rcases h with ⟨-, h2⟩ | ⟨-, h2, -, -⟩ | ⟨-, h2⟩ | ⟨-, -, -, h4, -, -⟩
  · omega
  · omega
  · omega
  · exact h4
theorem tk_2 {r : Nat × Nat × Nat} (h : TK B k p r) : r.1 = 2 ↔ (nmL B k p = 1 ∨ nmL B k p = 2) := by
  rcases h with ⟨h1, h2⟩ | ⟨h1, h2, h3, h4⟩ | ⟨h1, h2⟩ | ⟨h1, h2, h3, h4, h5, h6⟩
  · refine ⟨fun e => by omega, fun e => ?_⟩
    have := (nm_le e).1
    omega
  · exact ⟨fun _ => h1, fun _ => h2⟩
  · exact ⟨fun e => by omega, fun e => by omega⟩
  · exact ⟨fun e => by omega, fun e => by omega⟩
theorem tk_2v {r : Nat × Nat × Nat} (h : TK B k p r) (h2 : r.1 = 2) : r.2.1 = nmV B k p ∧ r.2.2 = p + nmL B k p := by
  rcases h with ⟨-, g⟩ | ⟨-, -, h3, h4⟩ | ⟨-, g⟩ | ⟨-, -, -, -, g, -⟩
  · omega
  · exact ⟨h3, h4⟩
  · omega
  · omega
theorem tk_3 {r : Nat × Nat × Nat} (h : TK B k p r) : r.1 = 3 ↔ p = k := by
  rcases h with ⟨h1, h2⟩ | ⟨h1, h2, h3, h4⟩ | ⟨h1, h2⟩ | ⟨h1, h2, h3, h4, h5, h6⟩
  · exact ⟨fun _ => h1, fun _ => h2⟩
  · refine ⟨fun e => by omega, fun e => ?_⟩
    have := (nm_le h1).1
    omega
  · refine ⟨fun e => by omega, fun e => ?_⟩
    rcases nm_cases B k p with ⟨b, a⟩ | ⟨b, b1, a, c⟩ | ⟨b, b1, b2, a, c⟩ | ⟨b, b1, b2, a⟩
    · omega
    · omega
    · omega
    · have := b.1
      omega
  · exact ⟨fun e => by omega, fun e => by omega⟩
theorem tk_t {r : Nat × Nat × Nat} (h : TK B k p r) : r.1 ≤ 3 := by
  rcases h with ⟨-, g⟩ | ⟨-, g, -, -⟩ | ⟨-, g⟩ | ⟨-, -, -, -, g, -⟩ <;> omega
end TK
