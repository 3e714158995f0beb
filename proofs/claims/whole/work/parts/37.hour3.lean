/-! the reference's hour, its end -/
def hldM (y : Nat → Int32) : Option Nat → Nat → Int32
  | none => y
  | some b => upd y (38 + b) (y (38 + b) + nI 1)
def FM (y : Nat → Int32) (dr : Int32) : Nat → Int32 := fun j => ofM y dr (sntM y j) j
def nwoM (y : Nat → Int32) (N : Nat) (dr : Int32) (o : Option Nat) : Option Nat := if dr = nI 0 then none else nxtI (fun b => yU y (FM y dr) N (32 + b)) N o
def ohM (y : Nat → Int32) (N : Nat) (dr : Int32) (o : Option Nat) : Nat → Int32 := upd (hldM (upd (yU y (FM y dr) N) 7 (ovI (nwoM y N dr o))) (nwoM y N dr o)) 5 (y 5 + nI 1)
theorem m1_lt : (-1 : Int32) < nI 0 := by decide
theorem nI_nlt0 {b : Nat} (h : b < 2 ^ 31) : ¬ nI b < nI 0 := nI_nlt (Nat.zero_le _) h
section RM
variable {d : Nat} {m : Nat → Nat → Int32} {y f : Nat → Int32}
theorem k_X7_oneHour {C N : Nat} {dr : Int32} {o : Option Nat} (hp : ¬ y 0 = 0) (hC : y 3 = nI C) (hC6 : C ≤ 6) (hN : y 4 = nI N) (hN6 : N ≤ 6) (hdr : dryMs y (watM y (y 5)) C 0 (nI 0) = dr) (ho : ∀ b, o = some b → b < N) (hy : y 7 = ovI o) : jm_K (d + 3) md_X7_oneHour [.ref 217] (jm_mk (wrA m 221 y)) = some (none, jm_mk (wrA m 221 (ohM y N dr o))) := by
  show jm_R (d + 3) md_X7_oneHour 0 [.ref 217, .null, .null] [] _ = _
  obtain ⟨l2, hl⟩ := lp_X7_oneHour (d := d) (m := m) hp hC hC6 hN hN6 hdr N 0 .null (by omega)
  rw [yU_0] at hl
  simp only [e_X7_oneHour_0, e_X7_oneHour_1, hl]
  unfold ohM nwoM
  change jm_R (d + 3) md_X7_oneHour 105 [.ref 217, .int (nI N), l2] [] (jm_mk (wrA m 221 (yU y (FM y dr) N))) = _
  generalize hY : yU y (FM y dr) N = Y
  have y7 : Y 7 = ovI o := by rw [← hY, yU_lo (by decide)]; exact hy
  have y5 : Y 5 = y 5 := by rw [← hY, yU_lo (by decide)]
  have hthr := k_X7_thereSet (d := d + 2) (m := m) (y := Y) (N := N) (by rw [← hY, yU_lo (by decide)]; exact hN) hN6
  have hdry : jm_K (d + 2) md_X7_dryIn [.ref 217, .int (y 5)] (jm_mk (wrA m 221 Y)) = some (some (.int dr), jm_mk (wrA m 221 Y)) := by
    have q := k_X7_dryIn (d := d + 1) (m := m) (y := Y) (C := C) (h := y 5) (by rw [← hY, yU_lo (by decide)]; exact hp) (by rw [← hY, yU_lo (by decide)]; exact hC) hC6
    rw [q, ← hdr]
    have e1 : dryMs Y (watM Y (y 5)) C 0 (nI 0) = dryMs y (watM y (y 5)) C 0 (nI 0) := by
      rw [← hY]
      unfold dryMs watM
      rw [yU_lo (show 0 < 32 by decide), yU_lo (show 1 < 32 by decide)]
      exact dryL_congr (fun j h1 h2 => yU_lo (by omega))
    rw [e1]
  obtain ⟨ht1, ht2⟩ := thr_nI (f := fun b => Y (32 + b)) N 0 0 (by omega) (by decide)
  have ht3 := thr_bit (f := fun b => Y (32 + b)) N 0 0 (by omega) (by decide)
  rw [ht1] at hthr
  generalize hT : thrN (fun b => Y (32 + b)) N 0 0 = t at hthr ht2 ht3
  have ht64 : t < 64 := by have := pow_le hN6; rw [Nat.zero_add] at ht2; omega
  have hbit : ∀ b, b < 6 → (t.testBit b = true ↔ b < N ∧ Y (32 + b) = nI 0) := by
    intro b hb
    rw [ht3 b hb, Nat.zero_testBit]
    simp
  have u77 : ∀ v, upd Y 7 v 7 = v := fun v => pk_us
  have u75 : ∀ v, upd Y 7 v 5 = y 5 := fun v => by rw [pk_un (by decide)]; exact y5
  have h10 : ¬ nI 1 = nI 0 := by decide
  have tail : ∀ (o' : Option Nat) (l1 l2 : Value), (∀ b, o' = some b → b < N) → jm_R (d + 3) md_X7_oneHour 173 [.ref 217, l1, l2] [] (jm_mk (wrA m 221 (upd Y 7 (ovI o')))) = some (none, jm_mk (wrA m 221 (upd (hldM (upd Y 7 (ovI o')) o') 5 (y 5 + nI 1)))) := by
    intro o' l1 l2 ho'
    cases o' with
    | none =>
      simp only [e_X7_oneHour_0, e_X7_oneHour_1, e_X7_oneHour_3, e_X7_oneHour_4, e_X7_oneHour_7, e_X7_oneHour_8, e_X7_oneHour_9, e_X7_oneHour_12, e_X7_oneHour_13, e_X7_oneHour_16, e_X7_oneHour_18, e_X7_oneHour_19, e_X7_oneHour_20, e_X7_oneHour_23, e_X7_oneHour_26, e_X7_oneHour_27, e_X7_oneHour_30, e_X7_oneHour_32, e_X7_oneHour_33, e_X7_oneHour_34, e_X7_oneHour_35, e_X7_oneHour_36, e_X7_oneHour_37, e_X7_oneHour_40, e_X7_oneHour_41, e_X7_oneHour_44, e_X7_oneHour_45, e_X7_oneHour_48, e_X7_oneHour_50, e_X7_oneHour_51, e_X7_oneHour_52, e_X7_oneHour_53, e_X7_oneHour_54, e_X7_oneHour_55, e_X7_oneHour_56, e_X7_oneHour_57, e_X7_oneHour_60, e_X7_oneHour_62, e_X7_oneHour_63, e_X7_oneHour_64, e_X7_oneHour_65, e_X7_oneHour_68, e_X7_oneHour_69, e_X7_oneHour_72, e_X7_oneHour_73, e_X7_oneHour_74, e_X7_oneHour_77, e_X7_oneHour_79, e_X7_oneHour_80, e_X7_oneHour_81, e_X7_oneHour_82, e_X7_oneHour_85, e_X7_oneHour_86, e_X7_oneHour_89, e_X7_oneHour_91, e_X7_oneHour_92, e_X7_oneHour_93, e_X7_oneHour_94, e_X7_oneHour_97, e_X7_oneHour_98, e_X7_oneHour_99, e_X7_oneHour_102, e_X7_oneHour_105, e_X7_oneHour_106, e_X7_oneHour_109, e_X7_oneHour_110, e_X7_oneHour_111, e_X7_oneHour_112, e_X7_oneHour_115, e_X7_oneHour_116, e_X7_oneHour_117, e_X7_oneHour_120, e_X7_oneHour_123, e_X7_oneHour_124, e_X7_oneHour_127, e_X7_oneHour_128, e_X7_oneHour_131, e_X7_oneHour_133, e_X7_oneHour_134, e_X7_oneHour_135, e_X7_oneHour_138, e_X7_oneHour_139, e_X7_oneHour_142, e_X7_oneHour_144, e_X7_oneHour_145, e_X7_oneHour_148, e_X7_oneHour_149, e_X7_oneHour_150, e_X7_oneHour_153, e_X7_oneHour_155, e_X7_oneHour_156, e_X7_oneHour_159, e_X7_oneHour_162, e_X7_oneHour_163, e_X7_oneHour_166, e_X7_oneHour_168, e_X7_oneHour_169, e_X7_oneHour_172, e_X7_oneHour_173, e_X7_oneHour_174, e_X7_oneHour_177, e_X7_oneHour_179, e_X7_oneHour_180, e_X7_oneHour_183, e_X7_oneHour_184, e_X7_oneHour_187, e_X7_oneHour_189, e_X7_oneHour_190, e_X7_oneHour_193, e_X7_oneHour_195, e_X7_oneHour_196, e_X7_oneHour_197, e_X7_oneHour_198, e_X7_oneHour_199, e_X7_oneHour_200, e_X7_oneHour_201, e_X7_oneHour_202, e_X7_oneHour_203, e_X7_oneHour_206, e_X7_oneHour_207, e_X7_oneHour_208, e_X7_oneHour_209, e_X7_oneHour_210, e_X7_oneHour_211, e_X7_oneHour_212, wrA_at, show (7 : Nat) < 44 by decide, show (5 : Nat) < 44 by decide, u77, u75, ovI, m1_lt, if_true, wrA_up, hldM]
    | some b =>
      have hb := ho' b rfl
      have hb38 : 38 + b < 44 := by omega
      have e5 : upd (upd Y 7 (nI b)) (38 + b) (upd Y 7 (nI b) (38 + b) + nI 1) 5 = y 5 := by rw [pk_un (by omega), u75]
      simp only [e_X7_oneHour_0, e_X7_oneHour_1, e_X7_oneHour_3, e_X7_oneHour_4, e_X7_oneHour_7, e_X7_oneHour_8, e_X7_oneHour_9, e_X7_oneHour_12, e_X7_oneHour_13, e_X7_oneHour_16, e_X7_oneHour_18, e_X7_oneHour_19, e_X7_oneHour_20, e_X7_oneHour_23, e_X7_oneHour_26, e_X7_oneHour_27, e_X7_oneHour_30, e_X7_oneHour_32, e_X7_oneHour_33, e_X7_oneHour_34, e_X7_oneHour_35, e_X7_oneHour_36, e_X7_oneHour_37, e_X7_oneHour_40, e_X7_oneHour_41, e_X7_oneHour_44, e_X7_oneHour_45, e_X7_oneHour_48, e_X7_oneHour_50, e_X7_oneHour_51, e_X7_oneHour_52, e_X7_oneHour_53, e_X7_oneHour_54, e_X7_oneHour_55, e_X7_oneHour_56, e_X7_oneHour_57, e_X7_oneHour_60, e_X7_oneHour_62, e_X7_oneHour_63, e_X7_oneHour_64, e_X7_oneHour_65, e_X7_oneHour_68, e_X7_oneHour_69, e_X7_oneHour_72, e_X7_oneHour_73, e_X7_oneHour_74, e_X7_oneHour_77, e_X7_oneHour_79, e_X7_oneHour_80, e_X7_oneHour_81, e_X7_oneHour_82, e_X7_oneHour_85, e_X7_oneHour_86, e_X7_oneHour_89, e_X7_oneHour_91, e_X7_oneHour_92, e_X7_oneHour_93, e_X7_oneHour_94, e_X7_oneHour_97, e_X7_oneHour_98, e_X7_oneHour_99, e_X7_oneHour_102, e_X7_oneHour_105, e_X7_oneHour_106, e_X7_oneHour_109, e_X7_oneHour_110, e_X7_oneHour_111, e_X7_oneHour_112, e_X7_oneHour_115, e_X7_oneHour_116, e_X7_oneHour_117, e_X7_oneHour_120, e_X7_oneHour_123, e_X7_oneHour_124, e_X7_oneHour_127, e_X7_oneHour_128, e_X7_oneHour_131, e_X7_oneHour_133, e_X7_oneHour_134, e_X7_oneHour_135, e_X7_oneHour_138, e_X7_oneHour_139, e_X7_oneHour_142, e_X7_oneHour_144, e_X7_oneHour_145, e_X7_oneHour_148, e_X7_oneHour_149, e_X7_oneHour_150, e_X7_oneHour_153, e_X7_oneHour_155, e_X7_oneHour_156, e_X7_oneHour_159, e_X7_oneHour_162, e_X7_oneHour_163, e_X7_oneHour_166, e_X7_oneHour_168, e_X7_oneHour_169, e_X7_oneHour_172, e_X7_oneHour_173, e_X7_oneHour_174, e_X7_oneHour_177, e_X7_oneHour_179, e_X7_oneHour_180, e_X7_oneHour_183, e_X7_oneHour_184, e_X7_oneHour_187, e_X7_oneHour_189, e_X7_oneHour_190, e_X7_oneHour_193, e_X7_oneHour_195, e_X7_oneHour_196, e_X7_oneHour_197, e_X7_oneHour_198, e_X7_oneHour_199, e_X7_oneHour_200, e_X7_oneHour_201, e_X7_oneHour_202, e_X7_oneHour_203, e_X7_oneHour_206, e_X7_oneHour_207, e_X7_oneHour_208, e_X7_oneHour_209, e_X7_oneHour_210, e_X7_oneHour_211, e_X7_oneHour_212, wrA_at, show (7 : Nat) < 44 by decide, show (5 : Nat) < 44 by decide, u77, ovI, nI_nlt0 (show b < 2 ^ 31 by omega), if_false, nI_add, hb38, wrA_up, hldM, e5]
  by_cases qd : dr = nI 0
  · rw [if_pos qd]
    rw [← tail none (.int (nI t)) l2 (fun b h => by cases h)]
    simp only [e_X7_oneHour_0, e_X7_oneHour_1, e_X7_oneHour_3, e_X7_oneHour_4, e_X7_oneHour_7, e_X7_oneHour_8, e_X7_oneHour_9, e_X7_oneHour_12, e_X7_oneHour_13, e_X7_oneHour_16, e_X7_oneHour_18, e_X7_oneHour_19, e_X7_oneHour_20, e_X7_oneHour_23, e_X7_oneHour_26, e_X7_oneHour_27, e_X7_oneHour_30, e_X7_oneHour_32, e_X7_oneHour_33, e_X7_oneHour_34, e_X7_oneHour_35, e_X7_oneHour_36, e_X7_oneHour_37, e_X7_oneHour_40, e_X7_oneHour_41, e_X7_oneHour_44, e_X7_oneHour_45, e_X7_oneHour_48, e_X7_oneHour_50, e_X7_oneHour_51, e_X7_oneHour_52, e_X7_oneHour_53, e_X7_oneHour_54, e_X7_oneHour_55, e_X7_oneHour_56, e_X7_oneHour_57, e_X7_oneHour_60, e_X7_oneHour_62, e_X7_oneHour_63, e_X7_oneHour_64, e_X7_oneHour_65, e_X7_oneHour_68, e_X7_oneHour_69, e_X7_oneHour_72, e_X7_oneHour_73, e_X7_oneHour_74, e_X7_oneHour_77, e_X7_oneHour_79, e_X7_oneHour_80, e_X7_oneHour_81, e_X7_oneHour_82, e_X7_oneHour_85, e_X7_oneHour_86, e_X7_oneHour_89, e_X7_oneHour_91, e_X7_oneHour_92, e_X7_oneHour_93, e_X7_oneHour_94, e_X7_oneHour_97, e_X7_oneHour_98, e_X7_oneHour_99, e_X7_oneHour_102, e_X7_oneHour_105, e_X7_oneHour_106, e_X7_oneHour_109, e_X7_oneHour_110, e_X7_oneHour_111, e_X7_oneHour_112, e_X7_oneHour_115, e_X7_oneHour_116, e_X7_oneHour_117, e_X7_oneHour_120, e_X7_oneHour_123, e_X7_oneHour_124, e_X7_oneHour_127, e_X7_oneHour_128, e_X7_oneHour_131, e_X7_oneHour_133, e_X7_oneHour_134, e_X7_oneHour_135, e_X7_oneHour_138, e_X7_oneHour_139, e_X7_oneHour_142, e_X7_oneHour_144, e_X7_oneHour_145, e_X7_oneHour_148, e_X7_oneHour_149, e_X7_oneHour_150, e_X7_oneHour_153, e_X7_oneHour_155, e_X7_oneHour_156, e_X7_oneHour_159, e_X7_oneHour_162, e_X7_oneHour_163, e_X7_oneHour_166, e_X7_oneHour_168, e_X7_oneHour_169, e_X7_oneHour_172, hthr, jm_bd_v, wrA_at, show (5 : Nat) < 44 by decide, show (7 : Nat) < 44 by decide, y5, hdry, if_pos qd, wrA_up, ovI]
  · rw [if_neg qd]
    by_cases qt : t = 0
    · subst qt
      have hn : nxtI (fun b => Y (32 + b)) N o = none := by
        have hz : ∀ b, b < N → ¬ Y (32 + b) = nI 0 := fun b hb h => by
          have := (hbit b (by omega)).mpr ⟨hb, h⟩
          rw [Nat.zero_testBit] at this
          cases this
        have hf : frsL (fun b => Y (32 + b)) N 0 = none := by
          cases hf : frsL (fun b => Y (32 + b)) N 0 with
          | none => rfl
          | some b => exact absurd (frsL_some hf).1 (hz b (by have := frsL_lt hf; omega))
        cases o with
        | none => exact hf
        | some b => show (if Y (32 + b) = nI 0 then some b else frsL (fun b => Y (32 + b)) N 0) = none; rw [if_neg (hz b (ho b rfl)), hf]
      rw [hn, ← tail none (.int (nI 0)) l2 (fun b h => by cases h)]
      simp only [e_X7_oneHour_0, e_X7_oneHour_1, e_X7_oneHour_3, e_X7_oneHour_4, e_X7_oneHour_7, e_X7_oneHour_8, e_X7_oneHour_9, e_X7_oneHour_12, e_X7_oneHour_13, e_X7_oneHour_16, e_X7_oneHour_18, e_X7_oneHour_19, e_X7_oneHour_20, e_X7_oneHour_23, e_X7_oneHour_26, e_X7_oneHour_27, e_X7_oneHour_30, e_X7_oneHour_32, e_X7_oneHour_33, e_X7_oneHour_34, e_X7_oneHour_35, e_X7_oneHour_36, e_X7_oneHour_37, e_X7_oneHour_40, e_X7_oneHour_41, e_X7_oneHour_44, e_X7_oneHour_45, e_X7_oneHour_48, e_X7_oneHour_50, e_X7_oneHour_51, e_X7_oneHour_52, e_X7_oneHour_53, e_X7_oneHour_54, e_X7_oneHour_55, e_X7_oneHour_56, e_X7_oneHour_57, e_X7_oneHour_60, e_X7_oneHour_62, e_X7_oneHour_63, e_X7_oneHour_64, e_X7_oneHour_65, e_X7_oneHour_68, e_X7_oneHour_69, e_X7_oneHour_72, e_X7_oneHour_73, e_X7_oneHour_74, e_X7_oneHour_77, e_X7_oneHour_79, e_X7_oneHour_80, e_X7_oneHour_81, e_X7_oneHour_82, e_X7_oneHour_85, e_X7_oneHour_86, e_X7_oneHour_89, e_X7_oneHour_91, e_X7_oneHour_92, e_X7_oneHour_93, e_X7_oneHour_94, e_X7_oneHour_97, e_X7_oneHour_98, e_X7_oneHour_99, e_X7_oneHour_102, e_X7_oneHour_105, e_X7_oneHour_106, e_X7_oneHour_109, e_X7_oneHour_110, e_X7_oneHour_111, e_X7_oneHour_112, e_X7_oneHour_115, e_X7_oneHour_116, e_X7_oneHour_117, e_X7_oneHour_120, e_X7_oneHour_123, e_X7_oneHour_124, e_X7_oneHour_127, e_X7_oneHour_128, e_X7_oneHour_131, e_X7_oneHour_133, e_X7_oneHour_134, e_X7_oneHour_135, e_X7_oneHour_138, e_X7_oneHour_139, e_X7_oneHour_142, e_X7_oneHour_144, e_X7_oneHour_145, e_X7_oneHour_148, e_X7_oneHour_149, e_X7_oneHour_150, e_X7_oneHour_153, e_X7_oneHour_155, e_X7_oneHour_156, e_X7_oneHour_159, e_X7_oneHour_162, e_X7_oneHour_163, e_X7_oneHour_166, e_X7_oneHour_168, e_X7_oneHour_169, e_X7_oneHour_172, hthr, jm_bd_v, wrA_at, show (5 : Nat) < 44 by decide, show (7 : Nat) < 44 by decide, y5, hdry, if_neg qd, wrA_up, ovI, not_true_eq_false, if_false]
    · have hne : ¬ nI t = nI 0 := nI_ne0 (by omega) (by omega)
      -- the least
      have hleast : ∀ b, frsL (fun b => Y (32 + b)) N 0 = some b → ∀ (m : Nat → Nat → Int32), jm_K (d + 2) md_X7_leastOf [.int (nI t)] (jm_mk m) = some (some (.int (nI b)), jm_mk m) := by
        intro b hf m
        have hb := frsL_lt hf
        obtain ⟨f1, f2⟩ := frsL_some hf
        exact k_X7_leastOf (d := d + 1) ht64 (by omega) ((hbit b (by omega)).mpr ⟨by omega, f1⟩) (fun j hj h => f2 j (Nat.zero_le _) hj ((hbit j (by omega)).mp h).2)
      have hfs : ∃ b, frsL (fun b => Y (32 + b)) N 0 = some b := by
        cases hf : frsL (fun b => Y (32 + b)) N 0 with
        | some b => exact ⟨b, rfl⟩
        | none =>
          exfalso
          apply qt
          have hz := frsL_none hf
          apply Nat.eq_of_testBit_eq
          intro i
          rw [Nat.zero_testBit]
          by_cases hi : i < 6
          · cases hb : t.testBit i with
            | false => rfl
            | true => exact absurd ((hbit i hi).mp hb).2 (hz i (Nat.zero_le _) (by have := ((hbit i hi).mp hb).1; omega))
          · have h64 : 2 ^ 6 ≤ 2 ^ i := Nat.pow_le_pow_right (by decide) (by omega)
            exact Nat.testBit_lt_two_pow (Nat.lt_of_lt_of_le ht64 h64)
      obtain ⟨bl, hbl⟩ := hfs
      have hbl2 := frsL_lt hbl
      cases o with
      | none =>
        have hn : nxtI (fun b => Y (32 + b)) N none = some bl := hbl
        rw [hn, ← tail (some bl) (.int (nI t)) l2 (fun b h => by cases h; omega)]
        simp only [e_X7_oneHour_0, e_X7_oneHour_1, e_X7_oneHour_3, e_X7_oneHour_4, e_X7_oneHour_7, e_X7_oneHour_8, e_X7_oneHour_9, e_X7_oneHour_12, e_X7_oneHour_13, e_X7_oneHour_16, e_X7_oneHour_18, e_X7_oneHour_19, e_X7_oneHour_20, e_X7_oneHour_23, e_X7_oneHour_26, e_X7_oneHour_27, e_X7_oneHour_30, e_X7_oneHour_32, e_X7_oneHour_33, e_X7_oneHour_34, e_X7_oneHour_35, e_X7_oneHour_36, e_X7_oneHour_37, e_X7_oneHour_40, e_X7_oneHour_41, e_X7_oneHour_44, e_X7_oneHour_45, e_X7_oneHour_48, e_X7_oneHour_50, e_X7_oneHour_51, e_X7_oneHour_52, e_X7_oneHour_53, e_X7_oneHour_54, e_X7_oneHour_55, e_X7_oneHour_56, e_X7_oneHour_57, e_X7_oneHour_60, e_X7_oneHour_62, e_X7_oneHour_63, e_X7_oneHour_64, e_X7_oneHour_65, e_X7_oneHour_68, e_X7_oneHour_69, e_X7_oneHour_72, e_X7_oneHour_73, e_X7_oneHour_74, e_X7_oneHour_77, e_X7_oneHour_79, e_X7_oneHour_80, e_X7_oneHour_81, e_X7_oneHour_82, e_X7_oneHour_85, e_X7_oneHour_86, e_X7_oneHour_89, e_X7_oneHour_91, e_X7_oneHour_92, e_X7_oneHour_93, e_X7_oneHour_94, e_X7_oneHour_97, e_X7_oneHour_98, e_X7_oneHour_99, e_X7_oneHour_102, e_X7_oneHour_105, e_X7_oneHour_106, e_X7_oneHour_109, e_X7_oneHour_110, e_X7_oneHour_111, e_X7_oneHour_112, e_X7_oneHour_115, e_X7_oneHour_116, e_X7_oneHour_117, e_X7_oneHour_120, e_X7_oneHour_123, e_X7_oneHour_124, e_X7_oneHour_127, e_X7_oneHour_128, e_X7_oneHour_131, e_X7_oneHour_133, e_X7_oneHour_134, e_X7_oneHour_135, e_X7_oneHour_138, e_X7_oneHour_139, e_X7_oneHour_142, e_X7_oneHour_144, e_X7_oneHour_145, e_X7_oneHour_148, e_X7_oneHour_149, e_X7_oneHour_150, e_X7_oneHour_153, e_X7_oneHour_155, e_X7_oneHour_156, e_X7_oneHour_159, e_X7_oneHour_162, e_X7_oneHour_163, e_X7_oneHour_166, e_X7_oneHour_168, e_X7_oneHour_169, e_X7_oneHour_172, hthr, jm_bd_v, wrA_at, show (5 : Nat) < 44 by decide, show (7 : Nat) < 44 by decide, y5, hdry, if_neg qd, if_pos hne, y7, ovI, m1_lt, if_true, hleast bl hbl, wrA_up]
      | some b =>
        have hb := ho b rfl
        have hb0 := nI_nlt0 (show b < 2 ^ 31 by omega)
        have hhb := has_bit t ht64 b (by omega)
        by_cases qb : Y (32 + b) = nI 0
        · have hn : nxtI (fun b => Y (32 + b)) N (some b) = some b := if_pos qb
          have hup : upd Y 7 (nI b) = Y := by
            funext i
            unfold upd
            by_cases z : i = 7
            · rw [if_pos z, z, y7]; rfl
            · rw [if_neg z]
          rw [hn, ← tail (some b) (.int (nI t)) l2 (fun b' h => by cases h; omega)]
          have hh : (nI t >>> (nI b &&& 31)) &&& nI 1 = nI 1 := hhb.mpr ((hbit b (by omega)).mpr ⟨hb, qb⟩)
          simp only [e_X7_oneHour_0, e_X7_oneHour_1, e_X7_oneHour_3, e_X7_oneHour_4, e_X7_oneHour_7, e_X7_oneHour_8, e_X7_oneHour_9, e_X7_oneHour_12, e_X7_oneHour_13, e_X7_oneHour_16, e_X7_oneHour_18, e_X7_oneHour_19, e_X7_oneHour_20, e_X7_oneHour_23, e_X7_oneHour_26, e_X7_oneHour_27, e_X7_oneHour_30, e_X7_oneHour_32, e_X7_oneHour_33, e_X7_oneHour_34, e_X7_oneHour_35, e_X7_oneHour_36, e_X7_oneHour_37, e_X7_oneHour_40, e_X7_oneHour_41, e_X7_oneHour_44, e_X7_oneHour_45, e_X7_oneHour_48, e_X7_oneHour_50, e_X7_oneHour_51, e_X7_oneHour_52, e_X7_oneHour_53, e_X7_oneHour_54, e_X7_oneHour_55, e_X7_oneHour_56, e_X7_oneHour_57, e_X7_oneHour_60, e_X7_oneHour_62, e_X7_oneHour_63, e_X7_oneHour_64, e_X7_oneHour_65, e_X7_oneHour_68, e_X7_oneHour_69, e_X7_oneHour_72, e_X7_oneHour_73, e_X7_oneHour_74, e_X7_oneHour_77, e_X7_oneHour_79, e_X7_oneHour_80, e_X7_oneHour_81, e_X7_oneHour_82, e_X7_oneHour_85, e_X7_oneHour_86, e_X7_oneHour_89, e_X7_oneHour_91, e_X7_oneHour_92, e_X7_oneHour_93, e_X7_oneHour_94, e_X7_oneHour_97, e_X7_oneHour_98, e_X7_oneHour_99, e_X7_oneHour_102, e_X7_oneHour_105, e_X7_oneHour_106, e_X7_oneHour_109, e_X7_oneHour_110, e_X7_oneHour_111, e_X7_oneHour_112, e_X7_oneHour_115, e_X7_oneHour_116, e_X7_oneHour_117, e_X7_oneHour_120, e_X7_oneHour_123, e_X7_oneHour_124, e_X7_oneHour_127, e_X7_oneHour_128, e_X7_oneHour_131, e_X7_oneHour_133, e_X7_oneHour_134, e_X7_oneHour_135, e_X7_oneHour_138, e_X7_oneHour_139, e_X7_oneHour_142, e_X7_oneHour_144, e_X7_oneHour_145, e_X7_oneHour_148, e_X7_oneHour_149, e_X7_oneHour_150, e_X7_oneHour_153, e_X7_oneHour_155, e_X7_oneHour_156, e_X7_oneHour_159, e_X7_oneHour_162, e_X7_oneHour_163, e_X7_oneHour_166, e_X7_oneHour_168, e_X7_oneHour_169, e_X7_oneHour_172, hthr, jm_bd_v, wrA_at, show (5 : Nat) < 44 by decide, show (7 : Nat) < 44 by decide, y5, hdry, if_neg qd, if_pos hne, y7, ovI, if_neg hb0, k_X7_has, if_pos hh, if_pos h10, hup]
        · have hn : nxtI (fun b => Y (32 + b)) N (some b) = some bl := (if_neg qb).trans hbl
          rw [hn, ← tail (some bl) (.int (nI t)) l2 (fun b' h => by cases h; omega)]
          have hh : ¬ (nI t >>> (nI b &&& 31)) &&& nI 1 = nI 1 := fun h => qb ((hbit b (by omega)).mp (hhb.mp h)).2
          simp only [e_X7_oneHour_0, e_X7_oneHour_1, e_X7_oneHour_3, e_X7_oneHour_4, e_X7_oneHour_7, e_X7_oneHour_8, e_X7_oneHour_9, e_X7_oneHour_12, e_X7_oneHour_13, e_X7_oneHour_16, e_X7_oneHour_18, e_X7_oneHour_19, e_X7_oneHour_20, e_X7_oneHour_23, e_X7_oneHour_26, e_X7_oneHour_27, e_X7_oneHour_30, e_X7_oneHour_32, e_X7_oneHour_33, e_X7_oneHour_34, e_X7_oneHour_35, e_X7_oneHour_36, e_X7_oneHour_37, e_X7_oneHour_40, e_X7_oneHour_41, e_X7_oneHour_44, e_X7_oneHour_45, e_X7_oneHour_48, e_X7_oneHour_50, e_X7_oneHour_51, e_X7_oneHour_52, e_X7_oneHour_53, e_X7_oneHour_54, e_X7_oneHour_55, e_X7_oneHour_56, e_X7_oneHour_57, e_X7_oneHour_60, e_X7_oneHour_62, e_X7_oneHour_63, e_X7_oneHour_64, e_X7_oneHour_65, e_X7_oneHour_68, e_X7_oneHour_69, e_X7_oneHour_72, e_X7_oneHour_73, e_X7_oneHour_74, e_X7_oneHour_77, e_X7_oneHour_79, e_X7_oneHour_80, e_X7_oneHour_81, e_X7_oneHour_82, e_X7_oneHour_85, e_X7_oneHour_86, e_X7_oneHour_89, e_X7_oneHour_91, e_X7_oneHour_92, e_X7_oneHour_93, e_X7_oneHour_94, e_X7_oneHour_97, e_X7_oneHour_98, e_X7_oneHour_99, e_X7_oneHour_102, e_X7_oneHour_105, e_X7_oneHour_106, e_X7_oneHour_109, e_X7_oneHour_110, e_X7_oneHour_111, e_X7_oneHour_112, e_X7_oneHour_115, e_X7_oneHour_116, e_X7_oneHour_117, e_X7_oneHour_120, e_X7_oneHour_123, e_X7_oneHour_124, e_X7_oneHour_127, e_X7_oneHour_128, e_X7_oneHour_131, e_X7_oneHour_133, e_X7_oneHour_134, e_X7_oneHour_135, e_X7_oneHour_138, e_X7_oneHour_139, e_X7_oneHour_142, e_X7_oneHour_144, e_X7_oneHour_145, e_X7_oneHour_148, e_X7_oneHour_149, e_X7_oneHour_150, e_X7_oneHour_153, e_X7_oneHour_155, e_X7_oneHour_156, e_X7_oneHour_159, e_X7_oneHour_162, e_X7_oneHour_163, e_X7_oneHour_166, e_X7_oneHour_168, e_X7_oneHour_169, e_X7_oneHour_172, hthr, jm_bd_v, wrA_at, show (5 : Nat) < 44 by decide, show (7 : Nat) < 44 by decide, y5, hdry, if_neg qd, if_pos hne, y7, ovI, if_neg hb0, k_X7_has, if_neg hh, not_true_eq_false, if_false, hleast bl hbl, wrA_up]
end RM
