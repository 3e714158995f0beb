/-! isle: both answer alike -/
theorem cs_self {m x : Nat → Nat → Int32} : wrI m 208 x = cs m (m 13 3) (m 13 2) (m 13 4) x := by
  have : ct m (m 13 3) (m 13 2) (m 13 4) = m := by
    funext r j
    unfold ct
    by_cases h : r = 13
    · subst h
      by_cases h3 : j = 3
      · simp [h3]
      · by_cases h2 : j = 2
        · simp [h2]
        · by_cases h4 : j = 4 <;> simp [h3, h2, h4]
    · simp [h]
  unfold cs
  rw [this]
theorem ms_self {m : Nat → Nat → Int32} : m = ms m (m 217 13) (m 217 11) (m 217 12) (m 217 10) (m 217 14) (m 224) := by
  funext a j
  unfold ms
  by_cases h : a = 217
  · subst h
    by_cases h1 : j = 13
    · simp [h1]
    · by_cases h2 : j = 11
      · simp [h2]
      · by_cases h3 : j = 12
        · simp [h3]
        · by_cases h4 : j = 10
          · simp [h4]
          · by_cases h5 : j = 14 <;> simp [h1, h2, h3, h4, h5]
  · by_cases h2 : a = 224 <;> simp [h, h2]
theorem k_X4_blank {d : Nat} {m : Nat → Nat → Int32} : jm_K (d + 1) md_X4_blank [.ref 207] (jm_mk m) = some (some (.ref 208), jm_mk (cs m (m 13 3) (m 13 2) (m 13 4) (clX (vwI m 208)))) := by
  show jm_R (d + 1) md_X4_blank 0 [.ref 207] [] _ = _
  have h := k_clear (d := d) (a := 208) (m := m) (x := vwI m 208) (by decide)
  rw [wrI_self] at h
  simp only [e_X4_blank_0, e_X4_blank_1, e_X4_blank_4, e_X4_blank_7, e_X4_blank_8, e_X4_blank_11, h, jm_bd_0]
  rw [cs_self]
/-- what stands before the isle is read -/
def rd0 (g : Nat → Int32) : Nat → Int32 := upd (cpk (fun _ => nI 0) g 44) 7 (-1)
theorem lp_rd0 {d : Nat} {m : Nat → Nat → Int32} {b t v p w : Int32} {g : Nat → Int32} {l2 : Value} : ∀ (f c : Nat), c + f = 44 → jm_R d md_X7_readIsle 7 [.ref 217, .int (nI c), l2] [] (jm_mk (ms m b t v p w (cpk (fun _ => nI 0) g c))) = jm_R d md_X7_readIsle 34 [.ref 217, .int (nI 44), l2] [] (jm_mk (ms m b t v p w (rd0 g))) := by
  intro f
  induction f with
  | zero =>
    intro c h
    have h1 : nI 44 ≤ nI c := nI_le (by omega) (by omega)
    rw [e_X7_readIsle_7]
    simp only [e_X7_readIsle_0, e_X7_readIsle_1, e_X7_readIsle_2, e_X7_readIsle_5, e_X7_readIsle_6, e_X7_readIsle_8, e_X7_readIsle_10, e_X7_readIsle_13, e_X7_readIsle_14, e_X7_readIsle_17, e_X7_readIsle_18, e_X7_readIsle_19, e_X7_readIsle_20, e_X7_readIsle_23, e_X7_readIsle_26, e_X7_readIsle_27, e_X7_readIsle_30, e_X7_readIsle_32, e_X7_readIsle_33, e_X7_readIsle_35, e_X7_readIsle_38, e_X7_readIsle_39, e_X7_readIsle_41, e_X7_readIsle_44, e_X7_readIsle_47, e_X7_readIsle_48, e_X7_readIsle_49, e_X7_readIsle_51, e_X7_readIsle_52, e_X7_readIsle_54, e_X7_readIsle_57, e_X7_readIsle_60, e_X7_readIsle_61, e_X7_readIsle_62, e_X7_readIsle_64, e_X7_readIsle_65, e_X7_readIsle_67, e_X7_readIsle_70, e_X7_readIsle_73, e_X7_readIsle_74, e_X7_readIsle_75, e_X7_readIsle_76, e_X7_readIsle_77, e_X7_readIsle_79, e_X7_readIsle_82, e_X7_readIsle_85, e_X7_readIsle_86, e_X7_readIsle_87, e_X7_readIsle_88, e_X7_readIsle_90, e_X7_readIsle_93, e_X7_readIsle_94, e_X7_readIsle_97, e_X7_readIsle_98, e_X7_readIsle_101, e_X7_readIsle_102, e_X7_readIsle_105, e_X7_readIsle_106, e_X7_readIsle_107, e_X7_readIsle_110, e_X7_readIsle_111, e_X7_readIsle_113, e_X7_readIsle_116, e_X7_readIsle_119, e_X7_readIsle_120, e_X7_readIsle_123, e_X7_readIsle_124, e_X7_readIsle_126, e_X7_readIsle_129, e_X7_readIsle_132, e_X7_readIsle_133, e_X7_readIsle_136, e_X7_readIsle_137, e_X7_readIsle_139, e_X7_readIsle_142, e_X7_readIsle_145, e_X7_readIsle_146, e_X7_readIsle_149, e_X7_readIsle_150, e_X7_readIsle_152, e_X7_readIsle_155, e_X7_readIsle_158, e_X7_readIsle_159, e_X7_readIsle_162, e_X7_readIsle_163, e_X7_readIsle_165, e_X7_readIsle_168, e_X7_readIsle_171, e_X7_readIsle_172, e_X7_readIsle_175, e_X7_readIsle_176, e_X7_readIsle_177, e_X7_readIsle_178, e_X7_readIsle_181, e_X7_readIsle_182, e_X7_readIsle_183, e_X7_readIsle_186, e_X7_readIsle_189, e_X7_readIsle_190, e_X7_readIsle_192, e_X7_readIsle_195, e_X7_readIsle_198, e_X7_readIsle_199, e_X7_readIsle_202, e_X7_readIsle_205, e_X7_readIsle_206, e_X7_readIsle_207, e_X7_readIsle_210, e_X7_readIsle_211, e_X7_readIsle_214, e_X7_readIsle_215, h1, if_true, show (7 : Nat) < 44 by decide, ms_ur]
    rw [show c = 44 by omega]
    rfl
  | succ f ih =>
    intro c h
    have h1 : ¬ nI 44 ≤ nI c := nI_ge (by omega) (by omega)
    have h2 : c < 44 := by omega
    have es := cpk_s (z := fun _ => nI 0) (y := g) (c := c)
    rw [e_X7_readIsle_7]
    simp only [e_X7_readIsle_0, e_X7_readIsle_1, e_X7_readIsle_2, e_X7_readIsle_5, e_X7_readIsle_6, e_X7_readIsle_8, e_X7_readIsle_10, e_X7_readIsle_13, e_X7_readIsle_14, e_X7_readIsle_17, e_X7_readIsle_18, e_X7_readIsle_19, e_X7_readIsle_20, e_X7_readIsle_23, e_X7_readIsle_26, e_X7_readIsle_27, e_X7_readIsle_30, e_X7_readIsle_32, e_X7_readIsle_33, e_X7_readIsle_35, e_X7_readIsle_38, e_X7_readIsle_39, e_X7_readIsle_41, e_X7_readIsle_44, e_X7_readIsle_47, e_X7_readIsle_48, e_X7_readIsle_49, e_X7_readIsle_51, e_X7_readIsle_52, e_X7_readIsle_54, e_X7_readIsle_57, e_X7_readIsle_60, e_X7_readIsle_61, e_X7_readIsle_62, e_X7_readIsle_64, e_X7_readIsle_65, e_X7_readIsle_67, e_X7_readIsle_70, e_X7_readIsle_73, e_X7_readIsle_74, e_X7_readIsle_75, e_X7_readIsle_76, e_X7_readIsle_77, e_X7_readIsle_79, e_X7_readIsle_82, e_X7_readIsle_85, e_X7_readIsle_86, e_X7_readIsle_87, e_X7_readIsle_88, e_X7_readIsle_90, e_X7_readIsle_93, e_X7_readIsle_94, e_X7_readIsle_97, e_X7_readIsle_98, e_X7_readIsle_101, e_X7_readIsle_102, e_X7_readIsle_105, e_X7_readIsle_106, e_X7_readIsle_107, e_X7_readIsle_110, e_X7_readIsle_111, e_X7_readIsle_113, e_X7_readIsle_116, e_X7_readIsle_119, e_X7_readIsle_120, e_X7_readIsle_123, e_X7_readIsle_124, e_X7_readIsle_126, e_X7_readIsle_129, e_X7_readIsle_132, e_X7_readIsle_133, e_X7_readIsle_136, e_X7_readIsle_137, e_X7_readIsle_139, e_X7_readIsle_142, e_X7_readIsle_145, e_X7_readIsle_146, e_X7_readIsle_149, e_X7_readIsle_150, e_X7_readIsle_152, e_X7_readIsle_155, e_X7_readIsle_158, e_X7_readIsle_159, e_X7_readIsle_162, e_X7_readIsle_163, e_X7_readIsle_165, e_X7_readIsle_168, e_X7_readIsle_171, e_X7_readIsle_172, e_X7_readIsle_175, e_X7_readIsle_176, e_X7_readIsle_177, e_X7_readIsle_178, e_X7_readIsle_181, e_X7_readIsle_182, e_X7_readIsle_183, e_X7_readIsle_186, e_X7_readIsle_189, e_X7_readIsle_190, e_X7_readIsle_192, e_X7_readIsle_195, e_X7_readIsle_198, e_X7_readIsle_199, e_X7_readIsle_202, e_X7_readIsle_205, e_X7_readIsle_206, e_X7_readIsle_207, e_X7_readIsle_210, e_X7_readIsle_211, e_X7_readIsle_214, e_X7_readIsle_215, h1, if_false, h2, ms_ur, nI_add]
    rw [es]
    exact ih (c + 1) (by omega)
theorem rk_start {d k : Nat} {B : Nat → Nat} {m : Nat → Nat → Int32} (hT : MT m k B) : jm_K (d + 2) md_X7_readIsle [.ref 217] (jm_mk m) = jm_R (d + 2) md_X7_readIsle 38 [.ref 217, .int (nI 44), .null] [] (jm_mk (mt B k m 0 (m 217 14) (rd0 (m 224)))) := by
  show jm_R (d + 2) md_X7_readIsle 0 [.ref 217, .null, .null] [] (jm_mk m) = _
  have h0 := lp_rd0 (d := d + 2) (m := m) (b := m 217 13) (t := m 217 11) (v := m 217 12) (p := nI 0) (w := m 217 14) (g := m 224) (l2 := .null) 44 0 rfl
  rw [cpk_0] at h0
  have hn := k_nt (d := d) (b := m 217 13) (t := m 217 11) (v := m 217 12) (w := m 217 14) (rd := rd0 (m 224)) (p := 0) hT (Nat.zero_le _)
  have hs : jm_mk m = jm_mk (ms m (m 217 13) (m 217 11) (m 217 12) (m 217 10) (m 217 14) (m 224)) := congrArg jm_mk ms_self
  rw [hs]
  simp only [e_X7_readIsle_0, e_X7_readIsle_1, e_X7_readIsle_2, e_X7_readIsle_5, e_X7_readIsle_6, e_X7_readIsle_8, e_X7_readIsle_10, e_X7_readIsle_13, e_X7_readIsle_14, e_X7_readIsle_17, e_X7_readIsle_18, e_X7_readIsle_19, e_X7_readIsle_20, e_X7_readIsle_23, e_X7_readIsle_26, e_X7_readIsle_27, e_X7_readIsle_30, e_X7_readIsle_32, e_X7_readIsle_33, e_X7_readIsle_35, e_X7_readIsle_39, e_X7_readIsle_41, e_X7_readIsle_44, e_X7_readIsle_47, e_X7_readIsle_48, e_X7_readIsle_49, e_X7_readIsle_51, e_X7_readIsle_52, e_X7_readIsle_54, e_X7_readIsle_57, e_X7_readIsle_60, e_X7_readIsle_61, e_X7_readIsle_62, e_X7_readIsle_64, e_X7_readIsle_65, e_X7_readIsle_67, e_X7_readIsle_70, e_X7_readIsle_73, e_X7_readIsle_74, e_X7_readIsle_75, e_X7_readIsle_76, e_X7_readIsle_77, e_X7_readIsle_79, e_X7_readIsle_82, e_X7_readIsle_85, e_X7_readIsle_86, e_X7_readIsle_87, e_X7_readIsle_88, e_X7_readIsle_90, e_X7_readIsle_93, e_X7_readIsle_94, e_X7_readIsle_97, e_X7_readIsle_98, e_X7_readIsle_101, e_X7_readIsle_102, e_X7_readIsle_105, e_X7_readIsle_106, e_X7_readIsle_107, e_X7_readIsle_110, e_X7_readIsle_111, e_X7_readIsle_113, e_X7_readIsle_116, e_X7_readIsle_119, e_X7_readIsle_120, e_X7_readIsle_123, e_X7_readIsle_124, e_X7_readIsle_126, e_X7_readIsle_129, e_X7_readIsle_132, e_X7_readIsle_133, e_X7_readIsle_136, e_X7_readIsle_137, e_X7_readIsle_139, e_X7_readIsle_142, e_X7_readIsle_145, e_X7_readIsle_146, e_X7_readIsle_149, e_X7_readIsle_150, e_X7_readIsle_152, e_X7_readIsle_155, e_X7_readIsle_158, e_X7_readIsle_159, e_X7_readIsle_162, e_X7_readIsle_163, e_X7_readIsle_165, e_X7_readIsle_168, e_X7_readIsle_171, e_X7_readIsle_172, e_X7_readIsle_175, e_X7_readIsle_176, e_X7_readIsle_177, e_X7_readIsle_178, e_X7_readIsle_181, e_X7_readIsle_182, e_X7_readIsle_183, e_X7_readIsle_186, e_X7_readIsle_189, e_X7_readIsle_190, e_X7_readIsle_192, e_X7_readIsle_195, e_X7_readIsle_198, e_X7_readIsle_199, e_X7_readIsle_202, e_X7_readIsle_205, e_X7_readIsle_206, e_X7_readIsle_207, e_X7_readIsle_210, e_X7_readIsle_211, e_X7_readIsle_214, e_X7_readIsle_215, ms_u10]
  refine h0.trans ?_
  simp only [e_X7_readIsle_0, e_X7_readIsle_1, e_X7_readIsle_2, e_X7_readIsle_5, e_X7_readIsle_6, e_X7_readIsle_8, e_X7_readIsle_10, e_X7_readIsle_13, e_X7_readIsle_14, e_X7_readIsle_17, e_X7_readIsle_18, e_X7_readIsle_19, e_X7_readIsle_20, e_X7_readIsle_23, e_X7_readIsle_26, e_X7_readIsle_27, e_X7_readIsle_30, e_X7_readIsle_32, e_X7_readIsle_33, e_X7_readIsle_34, e_X7_readIsle_35, e_X7_readIsle_39, e_X7_readIsle_41, e_X7_readIsle_44, e_X7_readIsle_47, e_X7_readIsle_48, e_X7_readIsle_49, e_X7_readIsle_51, e_X7_readIsle_52, e_X7_readIsle_54, e_X7_readIsle_57, e_X7_readIsle_60, e_X7_readIsle_61, e_X7_readIsle_62, e_X7_readIsle_64, e_X7_readIsle_65, e_X7_readIsle_67, e_X7_readIsle_70, e_X7_readIsle_73, e_X7_readIsle_74, e_X7_readIsle_75, e_X7_readIsle_76, e_X7_readIsle_77, e_X7_readIsle_79, e_X7_readIsle_82, e_X7_readIsle_85, e_X7_readIsle_86, e_X7_readIsle_87, e_X7_readIsle_88, e_X7_readIsle_90, e_X7_readIsle_93, e_X7_readIsle_94, e_X7_readIsle_97, e_X7_readIsle_98, e_X7_readIsle_101, e_X7_readIsle_102, e_X7_readIsle_105, e_X7_readIsle_106, e_X7_readIsle_107, e_X7_readIsle_110, e_X7_readIsle_111, e_X7_readIsle_113, e_X7_readIsle_116, e_X7_readIsle_119, e_X7_readIsle_120, e_X7_readIsle_123, e_X7_readIsle_124, e_X7_readIsle_126, e_X7_readIsle_129, e_X7_readIsle_132, e_X7_readIsle_133, e_X7_readIsle_136, e_X7_readIsle_137, e_X7_readIsle_139, e_X7_readIsle_142, e_X7_readIsle_145, e_X7_readIsle_146, e_X7_readIsle_149, e_X7_readIsle_150, e_X7_readIsle_152, e_X7_readIsle_155, e_X7_readIsle_158, e_X7_readIsle_159, e_X7_readIsle_162, e_X7_readIsle_163, e_X7_readIsle_165, e_X7_readIsle_168, e_X7_readIsle_171, e_X7_readIsle_172, e_X7_readIsle_175, e_X7_readIsle_176, e_X7_readIsle_177, e_X7_readIsle_178, e_X7_readIsle_181, e_X7_readIsle_182, e_X7_readIsle_183, e_X7_readIsle_186, e_X7_readIsle_189, e_X7_readIsle_190, e_X7_readIsle_192, e_X7_readIsle_195, e_X7_readIsle_198, e_X7_readIsle_199, e_X7_readIsle_202, e_X7_readIsle_205, e_X7_readIsle_206, e_X7_readIsle_207, e_X7_readIsle_210, e_X7_readIsle_211, e_X7_readIsle_214, e_X7_readIsle_215, hn, jm_bd_0]
theorem II.start {x : Nat → Nat → Int32} {g : Nat → Int32} {v0 v1 v2 : Nat} (h0 : 2 ≤ v0 ∧ v0 ≤ 24) (h2 : v2 ≤ 3) : II 0 0 (jm_up (jm_up (jm_up (clX x) 0 0 (nI v0)) 0 1 (nI v1)) 0 2 (nI v2)) (upd (upd (upd (rd0 g) 0 (nI v0)) 1 (nI v1)) 2 (nI v2)) := by
  have r : ∀ j, 2 < j → j < 44 → j ≠ 7 → upd (upd (upd (rd0 g) 0 (nI v0)) 1 (nI v1)) 2 (nI v2) j = nI 0 := fun j a b c => by
    rw [pk_un (by omega), pk_un (by omega), pk_un (by omega)]
    unfold rd0
    rw [pk_un c]
    exact if_pos b
  have r7 : upd (upd (upd (rd0 g) 0 (nI v0)) 1 (nI v1)) 2 (nI v2) 7 = -1 := by
    rw [pk_un (by omega), pk_un (by omega), pk_un (by omega)]
    unfold rd0
    rw [pk_us]
  have ra : upd (upd (upd (rd0 g) 0 (nI v0)) 1 (nI v1)) 2 (nI v2) 0 = nI v0 := by rw [pk_un (by omega), pk_un (by omega), pk_us]
  have rb : upd (upd (upd (rd0 g) 0 (nI v0)) 1 (nI v1)) 2 (nI v2) 1 = nI v1 := by rw [pk_un (by omega), pk_us]
  have rc : upd (upd (upd (rd0 g) 0 (nI v0)) 1 (nI v1)) 2 (nI v2) 2 = nI v2 := pk_us
  have z : ∀ j, 2 < j → j < 8 → jm_up (jm_up (jm_up (clX x) 0 0 (nI v0)) 0 1 (nI v1)) 0 2 (nI v2) 0 j = if j = 4 then -1 else nI 0 := fun j a b => by
    rw [jup_ne (by omega), jup_ne (by omega), jup_ne (by omega)]
    unfold clX
    rw [if_pos ⟨rfl, b⟩]
  refine ⟨⟨r 3 (by decide) (by decide) (by decide), by decide⟩, ⟨r 4 (by decide) (by decide) (by decide), by decide⟩, ⟨v0, h0.1, h0.2, ra⟩, ⟨v2, h2, rc⟩, r 6 (by decide) (by decide) (by decide), r7, fun b hb => r (38 + b) (by omega) (by omega) (by omega), fun b hb => absurd hb (by omega), ⟨?_, ?_, ?_, ?_, ?_, ?_, ?_, ?_⟩, fun i hi => absurd hi (by omega), fun i hi => absurd hi (by omega)⟩
  · rw [ra, jup_ne (by omega), jup_ne (by omega), jup_eq]
  · rw [rb, jup_ne (by omega), jup_eq]
  · rw [rc, jup_eq]
  · rw [z 3 (by decide) (by decide), r 5 (by decide) (by decide) (by decide)]; rfl
  · rw [z 4 (by decide) (by decide), r7]; rfl
  · rw [z 5 (by decide) (by decide), r 3 (by decide) (by decide) (by decide)]; rfl
  · rw [z 6 (by decide) (by decide), r 4 (by decide) (by decide) (by decide)]; rfl
  · rw [z 7 (by decide) (by decide), r 6 (by decide) (by decide) (by decide)]; rfl
/-- the whole tape -/
theorem into_sim {k : Nat} {B : Nat → Nat} {m x : Nat → Nat → Int32} {a l q : Int32} (hT : CT m k B) {g : Nat → Int32} : (∃ (x' : Nat → Nat → Int32) (rd' : Nat → Int32) (n : Nat), GX x' rd' ∧ n ≤ 6 ∧ rd' 4 = nI n ∧ x' 0 6 = nI n ∧ jm_K 11 md_X5_readInto [.ref 13, .ref 208] (jm_mk (cs m a l q (clX x))) = some (some (.int (-1)), jm_mk (jm_up (cs m (nI k) l (-1) x') 13 1 (nI 0))) ∧ ∀ (m' : Nat → Nat → Int32), MT m' k B → m' 224 = g → jm_K 11 md_X7_readIsle [.ref 217] (jm_mk m') = some (some (.int (nI 1)), jm_mk (mt B k m' k (m' 217 14) rd'))) ∨ ∃ (f q' : Nat) (a' : Int32) (x' : Nat → Nat → Int32), q' ≤ 120 ∧ jm_K 11 md_X5_readInto [.ref 13, .ref 208] (jm_mk (cs m a l q (clX x))) = some (some (.int (nI q')), jm_mk (jm_up (cs m a' (nI f) (nI q') x') 13 1 (nI 0))) ∧ ∀ (m' : Nat → Nat → Int32), MT m' k B → m' 224 = g → MF (jm_K 11 md_X7_readIsle [.ref 217] (jm_mk m')) B k m' f q' := by
  have hI : jm_ia 208 = true := by decide
  have u4 : ∀ (m : Nat → Nat → Int32) (a l p : Int32) (x : Nat → Nat → Int32), jm_up (cs m a l p x) 13 1 (nI 0) 13 4 = p := fun m a l p x => by rw [jup_ne (by decide), cs_4]
  rcases law_sim (d := 7) (D := 6) (l := l) (q := -1) (x := clX x) hT with ⟨p, v0, v1, v2, hp, hv0, hv2, c1, m1⟩ | ⟨f, q', ⟨hq, a', x', c1⟩, m1⟩
  · rcases cells_sim (d := 7) (D := 6) (l := l) (q := -1) hT 6 0 p _ _ rfl hp (II.start (x := x) (g := g) (v1 := v1) hv0 hv2) with ⟨c', p1, x1, rd1, hc', hp1, i1, hh, c2, m2⟩ | ⟨f, q', c2, m2⟩
    · have c2' : ∀ M, jm_K 10 md_X5_readCells [.ref 13, .ref 208] M = jm_R 10 md_X5_readCells 2 [.ref 13, .ref 208, .int (nI 0), .null] [] M := fun M => by
        show jm_R 10 md_X5_readCells 0 [.ref 13, .ref 208, .null, .null] [] _ = _
        simp only [e_X5_readCells_0, e_X5_readCells_1, e_X5_readCells_3, e_X5_readCells_5, e_X5_readCells_8, e_X5_readCells_9, e_X5_readCells_12, e_X5_readCells_13, e_X5_readCells_16, e_X5_readCells_18, e_X5_readCells_21, e_X5_readCells_22, e_X5_readCells_23, e_X5_readCells_24, e_X5_readCells_26, e_X5_readCells_29, e_X5_readCells_32, e_X5_readCells_33, e_X5_readCells_34, e_X5_readCells_35, e_X5_readCells_36, e_X5_readCells_38, e_X5_readCells_41, e_X5_readCells_42, e_X5_readCells_43, e_X5_readCells_46, e_X5_readCells_47, e_X5_readCells_49, e_X5_readCells_52, e_X5_readCells_55, e_X5_readCells_56, e_X5_readCells_57, e_X5_readCells_58, e_X5_readCells_59, e_X5_readCells_62, e_X5_readCells_65, e_X5_readCells_68, e_X5_readCells_69, e_X5_readCells_72, e_X5_readCells_74, e_X5_readCells_77, e_X5_readCells_78, e_X5_readCells_79, e_X5_readCells_82, e_X5_readCells_85, e_X5_readCells_86, e_X5_readCells_89, e_X5_readCells_90]
      have b2' : ∀ M, jm_K 10 md_X5_readBoats [.ref 13, .ref 208] M = jm_R 10 md_X5_readBoats 2 [.ref 13, .ref 208, .int (nI 0), .null, .null, .null] [] M := fun M => by
        show jm_R 10 md_X5_readBoats 0 [.ref 13, .ref 208, .null, .null, .null, .null] [] _ = _
        simp only [e_X5_readBoats_0, e_X5_readBoats_1, e_X5_readBoats_3, e_X5_readBoats_5, e_X5_readBoats_8, e_X5_readBoats_9, e_X5_readBoats_12, e_X5_readBoats_13, e_X5_readBoats_16, e_X5_readBoats_17, e_X5_readBoats_20, e_X5_readBoats_21, e_X5_readBoats_22, e_X5_readBoats_23, e_X5_readBoats_26, e_X5_readBoats_29, e_X5_readBoats_30, e_X5_readBoats_31, e_X5_readBoats_34, e_X5_readBoats_35, e_X5_readBoats_36, e_X5_readBoats_39, e_X5_readBoats_40, e_X5_readBoats_41, e_X5_readBoats_42, e_X5_readBoats_45, e_X5_readBoats_46, e_X5_readBoats_47, e_X5_readBoats_50, e_X5_readBoats_51, e_X5_readBoats_52, e_X5_readBoats_54, e_X5_readBoats_57, e_X5_readBoats_59, e_X5_readBoats_61, e_X5_readBoats_64, e_X5_readBoats_65, e_X5_readBoats_67, e_X5_readBoats_70, e_X5_readBoats_73, e_X5_readBoats_74, e_X5_readBoats_75, e_X5_readBoats_76, e_X5_readBoats_77, e_X5_readBoats_79, e_X5_readBoats_82, e_X5_readBoats_84, e_X5_readBoats_86, e_X5_readBoats_89, e_X5_readBoats_90, e_X5_readBoats_92, e_X5_readBoats_95, e_X5_readBoats_98, e_X5_readBoats_99, e_X5_readBoats_100, e_X5_readBoats_101, e_X5_readBoats_102, e_X5_readBoats_104, e_X5_readBoats_106, e_X5_readBoats_109, e_X5_readBoats_112, e_X5_readBoats_115, e_X5_readBoats_116, e_X5_readBoats_119, e_X5_readBoats_120, e_X5_readBoats_123, e_X5_readBoats_124, e_X5_readBoats_125, e_X5_readBoats_128, e_X5_readBoats_131, e_X5_readBoats_134, e_X5_readBoats_135, e_X5_readBoats_138, e_X5_readBoats_139, e_X5_readBoats_142, e_X5_readBoats_145, e_X5_readBoats_146, e_X5_readBoats_149, e_X5_readBoats_150]
      rcases boats_sim (d := 7) (D := 6) (l := l) (q := -1) hT hc' 6 0 p1 x1 rd1 rfl hp1 i1 (fun _ => hh) with ⟨n, x2, rd2, hn, i2, c3, m3⟩ | ⟨f, q', c3, m3⟩
      · refine Or.inl ⟨x2, rd2, n, i2.gx hc' hn, i2.2.1.2, i2.2.1.1, ?_, ?_, fun m' hT' hg => ?_⟩
        · have := i2.2.2.2.2.2.2.2.2.1.2.2.2.2.2.2.1
          rw [this]; exact i2.2.1.1
        · show jm_R 11 md_X5_readInto 0 [.ref 13, .ref 208, .null] [] _ = _
          simp only [e_X5_readInto_0, e_X5_readInto_1, e_X5_readInto_2, e_X5_readInto_5, e_X5_readInto_6, e_X5_readInto_7, e_X5_readInto_10, e_X5_readInto_11, e_X5_readInto_12, e_X5_readInto_15, e_X5_readInto_18, e_X5_readInto_19, e_X5_readInto_20, e_X5_readInto_23, e_X5_readInto_26, e_X5_readInto_27, e_X5_readInto_28, e_X5_readInto_31, e_X5_readInto_34, e_X5_readInto_35, e_X5_readInto_38, e_X5_readInto_39, e_X5_readInto_40, e_X5_readInto_41, e_X5_readInto_42, e_X5_readInto_45, e_X5_readInto_46, e_X5_readInto_49, e_X5_readInto_50, e_X5_readInto_53, e_X5_readInto_54, e_X5_readInto_57, cs_u3, cs_u4, hI, c1, c2', c2, b2', c3, jm_bd_v, bv1, if_false]
        · rw [rk_start hT', hg, m1 m' _ _ _ _ hT']
          rw [e_X7_readIsle_87, e_X7_readIsle_88]
          obtain ⟨l2', e2⟩ := m2 m' (m' 217 14) .null hT'
          rw [e2]
          exact m3 m' _ _ hT'
      · obtain ⟨hq, a', x', c3⟩ := c3 .null .null .null
        refine Or.inr ⟨f, q', a', x', hq, ?_, fun m' hT' hg => ?_⟩
        · show jm_R 11 md_X5_readInto 0 [.ref 13, .ref 208, .null] [] _ = _
          simp only [e_X5_readInto_0, e_X5_readInto_1, e_X5_readInto_2, e_X5_readInto_5, e_X5_readInto_6, e_X5_readInto_7, e_X5_readInto_10, e_X5_readInto_11, e_X5_readInto_12, e_X5_readInto_15, e_X5_readInto_18, e_X5_readInto_19, e_X5_readInto_20, e_X5_readInto_23, e_X5_readInto_26, e_X5_readInto_27, e_X5_readInto_28, e_X5_readInto_31, e_X5_readInto_34, e_X5_readInto_35, e_X5_readInto_38, e_X5_readInto_39, e_X5_readInto_40, e_X5_readInto_41, e_X5_readInto_42, e_X5_readInto_45, e_X5_readInto_46, e_X5_readInto_49, e_X5_readInto_50, e_X5_readInto_53, e_X5_readInto_54, e_X5_readInto_57, cs_u3, cs_u4, hI, c1, c2', c2, b2', c3, jm_bd_v, bv1, if_false, if_true, u4]
        · rw [rk_start hT', hg, m1 m' _ _ _ _ hT', e_X7_readIsle_87, e_X7_readIsle_88]
          obtain ⟨l2', e2⟩ := m2 m' (m' 217 14) .null hT'
          rw [e2]
          exact m3 m' _ _ hT'
    · have c2' : ∀ M, jm_K 10 md_X5_readCells [.ref 13, .ref 208] M = jm_R 10 md_X5_readCells 2 [.ref 13, .ref 208, .int (nI 0), .null] [] M := fun M => by
        show jm_R 10 md_X5_readCells 0 [.ref 13, .ref 208, .null, .null] [] _ = _
        simp only [e_X5_readCells_0, e_X5_readCells_1, e_X5_readCells_3, e_X5_readCells_5, e_X5_readCells_8, e_X5_readCells_9, e_X5_readCells_12, e_X5_readCells_13, e_X5_readCells_16, e_X5_readCells_18, e_X5_readCells_21, e_X5_readCells_22, e_X5_readCells_23, e_X5_readCells_24, e_X5_readCells_26, e_X5_readCells_29, e_X5_readCells_32, e_X5_readCells_33, e_X5_readCells_34, e_X5_readCells_35, e_X5_readCells_36, e_X5_readCells_38, e_X5_readCells_41, e_X5_readCells_42, e_X5_readCells_43, e_X5_readCells_46, e_X5_readCells_47, e_X5_readCells_49, e_X5_readCells_52, e_X5_readCells_55, e_X5_readCells_56, e_X5_readCells_57, e_X5_readCells_58, e_X5_readCells_59, e_X5_readCells_62, e_X5_readCells_65, e_X5_readCells_68, e_X5_readCells_69, e_X5_readCells_72, e_X5_readCells_74, e_X5_readCells_77, e_X5_readCells_78, e_X5_readCells_79, e_X5_readCells_82, e_X5_readCells_85, e_X5_readCells_86, e_X5_readCells_89, e_X5_readCells_90]
      obtain ⟨hq, a', x', c2⟩ := c2 .null
      refine Or.inr ⟨f, q', a', x', hq, ?_, fun m' hT' hg => ?_⟩
      · show jm_R 11 md_X5_readInto 0 [.ref 13, .ref 208, .null] [] _ = _
        simp only [e_X5_readInto_0, e_X5_readInto_1, e_X5_readInto_2, e_X5_readInto_5, e_X5_readInto_6, e_X5_readInto_7, e_X5_readInto_10, e_X5_readInto_11, e_X5_readInto_12, e_X5_readInto_15, e_X5_readInto_18, e_X5_readInto_19, e_X5_readInto_20, e_X5_readInto_23, e_X5_readInto_26, e_X5_readInto_27, e_X5_readInto_28, e_X5_readInto_31, e_X5_readInto_34, e_X5_readInto_35, e_X5_readInto_38, e_X5_readInto_39, e_X5_readInto_40, e_X5_readInto_41, e_X5_readInto_42, e_X5_readInto_45, e_X5_readInto_46, e_X5_readInto_49, e_X5_readInto_50, e_X5_readInto_53, e_X5_readInto_54, e_X5_readInto_57, cs_u3, cs_u4, hI, c1, c2', c2, jm_bd_v, bv1, if_false, if_true, u4]
      · rw [rk_start hT', hg, m1 m' _ _ _ _ hT', e_X7_readIsle_87, e_X7_readIsle_88]
        exact m2 m' _ _ hT'
  · refine Or.inr ⟨f, q', a', x', hq, ?_, fun m' hT' hg => ?_⟩
    · show jm_R 11 md_X5_readInto 0 [.ref 13, .ref 208, .null] [] _ = _
      simp only [e_X5_readInto_0, e_X5_readInto_1, e_X5_readInto_2, e_X5_readInto_5, e_X5_readInto_6, e_X5_readInto_7, e_X5_readInto_10, e_X5_readInto_11, e_X5_readInto_12, e_X5_readInto_15, e_X5_readInto_18, e_X5_readInto_19, e_X5_readInto_20, e_X5_readInto_23, e_X5_readInto_26, e_X5_readInto_27, e_X5_readInto_28, e_X5_readInto_31, e_X5_readInto_34, e_X5_readInto_35, e_X5_readInto_38, e_X5_readInto_39, e_X5_readInto_40, e_X5_readInto_41, e_X5_readInto_42, e_X5_readInto_45, e_X5_readInto_46, e_X5_readInto_49, e_X5_readInto_50, e_X5_readInto_53, e_X5_readInto_54, e_X5_readInto_57, cs_u3, cs_u4, hI, c1, jm_bd_v, if_true, u4]
    · rw [rk_start hT']
      exact m1 m' _ _ _ _ hT'
theorem lp_X7_isle {m : Nat → Nat → Int32} {y : Nat → Int32} {l1 : Int32} : ∀ (f c : Nat), c + f = 44 → jm_R 12 md_X7_isle 32 [.ref 217, .int l1, .int (nI c)] [] (jm_mk (wrA m 221 (cpk (m 224) y c))) = some (some (.int (m 224 4)), jm_mk (jm_up (jm_up (wrA m 221 (cpk (m 224) y 44)) 217 4 (nI 1)) 217 17 (nI 0))) := by
  intro f
  induction f with
  | zero =>
    intro c h
    have h1 : nI 44 ≤ nI c := nI_le (by omega) (by omega)
    have e4 : jm_up (jm_up (wrA m 221 (cpk (m 224) y 44)) 217 4 (nI 1)) 217 17 (nI 0) 221 4 = m 224 4 := by
      rw [jupr (by decide), jupr (by decide), wrA_at]
      rfl
    rw [e_X7_isle_32, show c = 44 by omega]
    rw [show c = 44 by omega] at h1
    simp only [e_X7_isle_0, e_X7_isle_1, e_X7_isle_4, e_X7_isle_5, e_X7_isle_6, e_X7_isle_7, e_X7_isle_10, e_X7_isle_11, e_X7_isle_14, e_X7_isle_15, e_X7_isle_16, e_X7_isle_19, e_X7_isle_22, e_X7_isle_24, e_X7_isle_25, e_X7_isle_28, e_X7_isle_29, e_X7_isle_30, e_X7_isle_31, e_X7_isle_33, e_X7_isle_35, e_X7_isle_38, e_X7_isle_39, e_X7_isle_42, e_X7_isle_43, e_X7_isle_44, e_X7_isle_47, e_X7_isle_48, e_X7_isle_49, e_X7_isle_50, e_X7_isle_53, e_X7_isle_56, e_X7_isle_57, e_X7_isle_58, e_X7_isle_61, e_X7_isle_62, e_X7_isle_63, e_X7_isle_66, e_X7_isle_67, e_X7_isle_70, e_X7_isle_71, e_X7_isle_72, h1, if_true, show (4 : Nat) < 44 by decide, e4]
  | succ f ih =>
    intro c h
    have h1 : ¬ nI 44 ≤ nI c := nI_ge (by omega) (by omega)
    have h2 : c < 44 := by omega
    have es := cpk_s (z := m 224) (y := y) (c := c)
    rw [e_X7_isle_32]
    simp only [e_X7_isle_0, e_X7_isle_1, e_X7_isle_4, e_X7_isle_5, e_X7_isle_6, e_X7_isle_7, e_X7_isle_10, e_X7_isle_11, e_X7_isle_14, e_X7_isle_15, e_X7_isle_16, e_X7_isle_19, e_X7_isle_22, e_X7_isle_24, e_X7_isle_25, e_X7_isle_28, e_X7_isle_29, e_X7_isle_30, e_X7_isle_31, e_X7_isle_33, e_X7_isle_35, e_X7_isle_38, e_X7_isle_39, e_X7_isle_42, e_X7_isle_43, e_X7_isle_44, e_X7_isle_47, e_X7_isle_48, e_X7_isle_49, e_X7_isle_50, e_X7_isle_53, e_X7_isle_56, e_X7_isle_57, e_X7_isle_58, e_X7_isle_61, e_X7_isle_62, e_X7_isle_63, e_X7_isle_66, e_X7_isle_67, e_X7_isle_70, e_X7_isle_71, e_X7_isle_72, h1, if_false, h2, wrA_ne (show (224 : Nat) ≠ 221 by decide), wrA_up, nI_add]
    rw [es]
    exact ih (c + 1) (by omega)
theorem api_isle : Api md_X6_isle md_X7_isle [] := by
  intro m hR
  obtain ⟨t1, k, hk, t2, t3, t4⟩ := hR.2.2.1
  have hI : jm_ia 200 = true := by decide
  have hB : ∃ B : Nat → Nat, (∀ i, i < k → m 14 i = nI (B i)) ∧ (∀ i, i < k → m 223 i = nI (B i)) ∧ ∀ i, i < k → B i < 256 := by
    refine ⟨fun i => (m 223 i).toNatClampNeg, fun i hi => ?_, fun i hi => ?_, fun i hi => ?_⟩
    · obtain ⟨a, b, c, e⟩ := t4 i hi
      dsimp only
      rw [a, e, nI_clamp (by omega)]
    · obtain ⟨a, b, c, e⟩ := t4 i hi
      dsimp only
      rw [e, nI_clamp (by omega)]
    · obtain ⟨a, b, c, e⟩ := t4 i hi
      dsimp only
      rw [e, nI_clamp (by omega)]
      exact c
  obtain ⟨B, b1, b2, b3⟩ := hB
  have hT : CT m k B := ⟨t2, hk, b1, b3⟩
  have kb := k_X4_blank (d := 10) (m := m)
  rcases into_sim (a := m 13 3) (l := m 13 2) (q := m 13 4) (x := vwI m 208) hT (g := m 224) with ⟨x', rd', n, gx, hn, rn, xn, c1, m1⟩ | ⟨f, q', a', x', hq, c1, m1⟩
  · generalize hM1 : jm_up (cs m (nI k) (m 13 2) (-1) x') 13 1 (nI 0) = M1 at c1
    have o1 : ∀ a, a ≠ 13 → ¬ (208 ≤ a ∧ a < 215) → M1 a = m a := fun a h1 h2 => by rw [← hM1, jupr h1, cs_r h2 h1]
    have v8 : ∀ r, r < 7 → vwI M1 208 r = x' r := fun r hr => by
      rw [← hM1]
      show jm_up (cs m (nI k) (m 13 2) (-1) x') 13 1 (nI 0) (208 + r) = _
      rw [jupr (by omega)]
      funext j
      exact wrI_r r hr
    have hb := k_X2_become (d := 10) (a := 200) (b := 208) (m := M1) hI (by decide) (by decide)
    generalize hM2 : jm_up (wrI M1 200 (becI (vwI M1 200) (vwI M1 208))) 15 2 (nI 0) = M2
    have o2 : ∀ a, a ≠ 13 → a ≠ 15 → ¬ (200 ≤ a ∧ a < 207) → ¬ (208 ≤ a ∧ a < 215) → M2 a = m a := fun a h1 h2 h3 h4 => by
      rw [← hM2, jupr h2]
      funext j
      unfold wrI
      rw [if_neg h3, o1 a h1 h4]
    have e6 : M2 200 6 = nI n := by
      rw [← hM2, jupr (by decide), wrI_0]
      show vwI M1 208 0 6 = _
      rw [v8 0 (by decide)]
      exact xn
    have hT' : MT M2 k B := ⟨by rw [o2 217 (by decide) (by decide) (by decide) (by decide)]; exact t3, hk, fun i hi => by rw [o2 223 (by decide) (by decide) (by decide) (by decide)]; exact b2 i hi, b3⟩
    have m1' := m1 M2 hT' (o2 224 (by decide) (by decide) (by decide) (by decide))
    generalize hM3 : jm_up (mt B k M2 k (M2 217 14) rd') 217 8 (nI 0) = M3
    have o3 : ∀ a, a ≠ 217 → a ≠ 224 → M3 a = M2 a := fun a h1 h2 => by
      rw [← hM3, jupr h1]
      exact ms_o h1 h2
    have o37 : ∀ j, j ≠ 8 → (j < 10 ∨ 14 < j) → M3 217 j = M2 217 j := fun j h1 h2 => by
      rw [← hM3, jup_ne (fun h => h1 h.2)]
      exact ms_7 h2
    have e24 : M3 224 = rd' := by
      rw [← hM3, jupr (by decide)]
      rfl
    have hl := lp_X7_isle (m := M3) (y := M3 221) (l1 := nI 1) 44 0 rfl
    rw [cpk_0, wrA_self] at hl
    refine ⟨.int (nI n), M2, jm_up (jm_up (wrA M3 221 (cpk (M3 224) (M3 221) 44)) 217 4 (nI 1)) 217 17 (nI 0), ?_, ?_, ?_⟩
    · show jm_R 12 md_X6_isle 0 [.ref 0, .null, .null] [] _ = _
      simp only [e_X6_isle_0, e_X6_isle_1, e_X6_isle_4, e_X6_isle_7, e_X6_isle_8, e_X6_isle_9, e_X6_isle_12, e_X6_isle_13, e_X6_isle_16, e_X6_isle_17, e_X6_isle_18, e_X6_isle_19, e_X6_isle_22, e_X6_isle_24, e_X6_isle_25, e_X6_isle_26, e_X6_isle_27, e_X6_isle_28, e_X6_isle_31, e_X6_isle_32, e_X6_isle_35, e_X6_isle_36, e_X6_isle_39, e_X6_isle_42, e_X6_isle_43, e_X6_isle_46, e_X6_isle_49, kb, jm_bd_v, jm_bd_0, c1, if_true, hb, k_X0_forget, hM2, hI, show jm_ia 208 = true by decide, e6]
    · show jm_R 12 md_X7_isle 0 [.ref 217, .null, .null] [] _ = _
      simp only [e_X7_isle_0, e_X7_isle_1, e_X7_isle_4, e_X7_isle_5, e_X7_isle_6, e_X7_isle_7, e_X7_isle_10, e_X7_isle_11, e_X7_isle_14, e_X7_isle_15, e_X7_isle_16, e_X7_isle_19, e_X7_isle_22, e_X7_isle_24, e_X7_isle_25, e_X7_isle_28, e_X7_isle_29, e_X7_isle_30, e_X7_isle_31, e_X7_isle_33, e_X7_isle_35, e_X7_isle_38, e_X7_isle_39, e_X7_isle_42, e_X7_isle_43, e_X7_isle_44, e_X7_isle_47, e_X7_isle_48, e_X7_isle_49, e_X7_isle_50, e_X7_isle_53, e_X7_isle_56, e_X7_isle_57, e_X7_isle_58, e_X7_isle_61, e_X7_isle_62, e_X7_isle_63, e_X7_isle_66, e_X7_isle_67, e_X7_isle_70, e_X7_isle_71, e_X7_isle_72, m1', jm_bd_v, bv1, not_false_eq_true, if_true, hM3]
      rw [hl, e24, rn]
    · generalize hM4 : jm_up (jm_up (wrA M3 221 (cpk (M3 224) (M3 221) 44)) 217 4 (nI 1)) 217 17 (nI 0) = M4
      have o4 : ∀ a, a ≠ 217 → a ≠ 221 → M4 a = M3 a := fun a h1 h2 => by rw [← hM4, jupr h1, jupr h1, wrA_ne h2]
      have o47 : ∀ j, j ≠ 4 → j ≠ 17 → M4 217 j = M3 217 j := fun j h1 h2 => by rw [← hM4, jup_ne (fun h => h2 h.2), jup_ne (fun h => h1 h.2), wrA_ne (by decide)]
      have oo : ∀ a, a ≠ 13 → a ≠ 15 → ¬ (200 ≤ a ∧ a < 207) → ¬ (208 ≤ a ∧ a < 215) → a ≠ 217 → a ≠ 221 → a ≠ 224 → M4 a = m a := fun a h1 h2 h3 h4 h5 h6 h7 => by rw [o4 a h5 h6, o3 a h5 h7, o2 a h1 h2 h3 h4]
      have o7 : ∀ j, j ≠ 4 → j ≠ 17 → j ≠ 8 → (j < 10 ∨ 14 < j) → M4 217 j = m 217 j := fun j h1 h2 h3 h4 => by rw [o47 j h1 h2, o37 j h3 h4, o2 217 (by decide) (by decide) (by decide) (by decide)]
      have o13 : ∀ j, M4 13 j = M1 13 j := fun j => by
        rw [o4 13 (by decide) (by decide), o3 13 (by decide) (by decide), ← hM2, jupr (by decide)]
        unfold wrI
        rw [if_neg (by decide)]
      have o15 : ∀ j, j ≠ 2 → M4 15 j = m 15 j := fun j hj => by
        rw [o4 15 (by decide) (by decide), o3 15 (by decide) (by decide), ← hM2, jup_ne (fun h => hj h.2), wrI_ne15, o1 15 (by decide) (by decide)]
      refine hR.fresh (GX.bec (w := vwI M1 200) (gx.congrx v8)) (by rw [← hM4, jup_ne (by decide), jup_eq]) (fun a h0 h1 h2 h3 h4 h5 h6 h7 => oo a h0 h1 h2 h3 h4 h5 h6) ⟨o7 3 (by decide) (by decide) (by decide) (by decide), o7 22 (by decide) (by decide) (by decide) (by decide)⟩ (by rw [← hM4, jup_eq]) (o15 1 (by decide)) ?_ (fun r hr => ?_) (fun j hj => ?_) ⟨?_, 0, by decide, ?_, ?_, fun i hi => absurd hi (by omega)⟩
      · rw [o4 15 (by decide) (by decide), o3 15 (by decide) (by decide), ← hM2, jup_eq]
      · rw [o4 (200 + r) (by omega) (by omega), o3 (200 + r) (by omega) (by omega), ← hM2, jupr (by omega)]
        funext j
        rw [wrI_r r hr]
      · rw [← hM4, jupr (by decide), jupr (by decide), wrA_at]
        show (if j < 44 then M3 224 j else M3 221 j) = _
        rw [if_pos hj, e24]
      · rw [o13, ← hM1, jup_ne (by decide), cs_2, o7 9 (by decide) (by decide) (by decide) (by decide)]
        exact t1
      · rw [o13, ← hM1, jup_eq]
      · rw [o47 8 (by decide) (by decide), ← hM3, jup_eq]
  · generalize hM1 : jm_up (cs m a' (nI f) (nI q') x') 13 1 (nI 0) = M1 at c1
    have o1 : ∀ a, a ≠ 13 → ¬ (208 ≤ a ∧ a < 215) → M1 a = m a := fun a h1 h2 => by rw [← hM1, jupr h1, cs_r h2 h1]
    have hT' : MT M1 k B := ⟨by rw [o1 217 (by decide) (by decide)]; exact t3, hk, fun i hi => by rw [o1 223 (by decide) (by decide)]; exact b2 i hi, b3⟩
    obtain ⟨rd', m1'⟩ := m1 M1 hT' (o1 224 (by decide) (by decide))
    have hm1 : ¬ nI q' = -1 := nI_m1 (by omega)
    have w14 : jm_up (mt B k M1 q' (nI f) rd') 217 8 (nI 0) 217 14 = nI f := by rw [jup_ne (by decide)]; rfl
    have w13 : jm_up (jm_up (mt B k M1 q' (nI f) rd') 217 8 (nI 0)) 217 9 (nI f) 217 13 = nI q' := by rw [jup_ne (by decide), jup_ne (by decide)]; rfl
    refine ⟨.int (-1000100 - nI q'), M1, jm_up (jm_up (mt B k M1 q' (nI f) rd') 217 8 (nI 0)) 217 9 (nI f), ?_, ?_, ?_⟩
    · show jm_R 12 md_X6_isle 0 [.ref 0, .null, .null] [] _ = _
      simp only [e_X6_isle_0, e_X6_isle_1, e_X6_isle_4, e_X6_isle_7, e_X6_isle_8, e_X6_isle_9, e_X6_isle_12, e_X6_isle_13, e_X6_isle_16, e_X6_isle_17, e_X6_isle_18, e_X6_isle_19, e_X6_isle_22, e_X6_isle_24, e_X6_isle_25, e_X6_isle_26, e_X6_isle_27, e_X6_isle_28, e_X6_isle_31, e_X6_isle_32, e_X6_isle_35, e_X6_isle_36, e_X6_isle_39, e_X6_isle_42, e_X6_isle_43, e_X6_isle_46, e_X6_isle_49, kb, jm_bd_v, c1, hm1, if_false, show jm_ia 208 = true by decide]
    · show jm_R 12 md_X7_isle 0 [.ref 217, .null, .null] [] _ = _
      simp only [e_X7_isle_0, e_X7_isle_1, e_X7_isle_4, e_X7_isle_5, e_X7_isle_6, e_X7_isle_7, e_X7_isle_10, e_X7_isle_11, e_X7_isle_14, e_X7_isle_15, e_X7_isle_16, e_X7_isle_19, e_X7_isle_22, e_X7_isle_24, e_X7_isle_25, e_X7_isle_28, e_X7_isle_29, e_X7_isle_30, e_X7_isle_31, e_X7_isle_33, e_X7_isle_35, e_X7_isle_38, e_X7_isle_39, e_X7_isle_42, e_X7_isle_43, e_X7_isle_44, e_X7_isle_47, e_X7_isle_48, e_X7_isle_49, e_X7_isle_50, e_X7_isle_53, e_X7_isle_56, e_X7_isle_57, e_X7_isle_58, e_X7_isle_61, e_X7_isle_62, e_X7_isle_63, e_X7_isle_66, e_X7_isle_67, e_X7_isle_70, e_X7_isle_71, e_X7_isle_72, m1', jm_bd_v, not_true_eq_false, if_false, w14, w13]
    · generalize hM4 : jm_up (jm_up (mt B k M1 q' (nI f) rd') 217 8 (nI 0)) 217 9 (nI f) = M4
      have o4 : ∀ a, a ≠ 13 → ¬ (208 ≤ a ∧ a < 215) → a ≠ 217 → a ≠ 224 → M4 a = m a := fun a h1 h2 h3 h4 => by
        rw [← hM4, jupr h3, jupr h3, ← o1 a h1 h2]
        exact ms_o h3 h4
      have o7 : ∀ j, j ≠ 8 → j ≠ 9 → (j < 10 ∨ 14 < j) → M4 217 j = m 217 j := fun j h1 h2 h3 => by
        rw [← hM4, jup_ne (fun h => h2 h.2), jup_ne (fun h => h1 h.2), ← o1 217 (by decide) (by decide)]
        exact ms_7 h3
      have o13 : ∀ j, M4 13 j = M1 13 j := fun j => by
        rw [← hM4, jupr (by decide), jupr (by decide)]
        exact congrFun (ms_o (by decide) (by decide)) j
      obtain ⟨g1, g2, g3, g4, g5, g6, g7⟩ := hR
      refine ⟨g1.c (fun a ha => o4 a (by omega) (by omega) (by omega) (by omega)), g2.c (by rw [o4 0 (by decide) (by decide) (by decide) (by decide)]) (o7 3 (by decide) (by decide) (by decide)), ⟨?_, 0, by decide, ?_, ?_, fun i hi => absurd hi (by omega)⟩, g4.c (o7 4 (by decide) (by decide) (by decide)) (fun a ha hb => o4 a (by omega) (by omega) (by omega) (by omega)) (fun j _ => by rw [o4 221 (by decide) (by decide) (by decide) (by decide)]) (o7 17 (by decide) (by decide) (by decide)), g5.c (by rw [o4 15 (by decide) (by decide) (by decide) (by decide)]) (by rw [o4 15 (by decide) (by decide) (by decide) (by decide)]) (o7 17 (by decide) (by decide) (by decide)) (fun a ha hb => o4 a (by omega) (by omega) (by omega) (by omega)) (o4 225 (by decide) (by decide) (by decide) (by decide)), g6.c (fun a ha hb => o4 a (by omega) (by omega) (by omega) (by omega)) (o4 227 (by decide) (by decide) (by decide) (by decide)) (o4 228 (by decide) (by decide) (by decide) (by decide)) (o7 4 (by decide) (by decide) (by decide)), g7.c (by rw [o4 215 (by decide) (by decide) (by decide) (by decide)]) (o7 22 (by decide) (by decide) (by decide)) (o4 216 (by decide) (by decide) (by decide) (by decide)) (o4 229 (by decide) (by decide) (by decide) (by decide))⟩
      · rw [o13, ← hM1, jup_ne (by decide), cs_2, ← hM4, jup_eq]
      · rw [o13, ← hM1, jup_eq]
      · rw [← hM4, jup_ne (by decide), jup_eq]
