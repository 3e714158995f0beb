/-! isle: cells and boats of the reference -/
section RC
variable {d k p : Nat} {B : Nat → Nat} {m : Nat → Nat → Int32} {w : Int32} {rd : Nat → Int32}
theorem mt_rd {j : Nat} : mt B k m p w rd 224 j = rd j := rfl
theorem mt_ur {j : Nat} {v : Int32} : jm_up (mt B k m p w rd) 224 j v = mt B k m p w (upd rd j v) := ms_ur
theorem rc_full {c n : Nat} (hc : c ≤ 6) (hn : n ≤ 6) (h3 : rd 3 = nI c) (h4 : rd 4 = nI n) (h : c = 6 ∨ 0 < n) : jm_K (d + 1) md_X7_readCell [.ref 217] (jm_mk (mt B k m p w rd)) = some (some (.int (nI 0)), jm_mk (mt B k m p (nI (if 0 < n then 1 else 3)) rd)) := by
  show jm_R (d + 1) md_X7_readCell 0 [.ref 217, .null] [] _ = _
  have q : (nI c = nI 6) = (c = 6) := propext (nI_eq (by omega) (by omega))
  by_cases z : 0 < n
  · have g : ¬ nI n ≤ nI 0 := nI_ge z (by omega)
    rw [if_pos z]
    by_cases u : c = 6
    · simp only [e_X7_readCell_0, e_X7_readCell_1, e_X7_readCell_4, e_X7_readCell_5, e_X7_readCell_6, e_X7_readCell_7, e_X7_readCell_8, e_X7_readCell_10, e_X7_readCell_13, e_X7_readCell_14, e_X7_readCell_17, e_X7_readCell_18, e_X7_readCell_19, e_X7_readCell_22, e_X7_readCell_23, e_X7_readCell_24, e_X7_readCell_27, e_X7_readCell_28, e_X7_readCell_29, e_X7_readCell_32, e_X7_readCell_33, e_X7_readCell_36, e_X7_readCell_37, e_X7_readCell_40, e_X7_readCell_41, e_X7_readCell_42, e_X7_readCell_45, e_X7_readCell_46, e_X7_readCell_49, e_X7_readCell_50, e_X7_readCell_51, e_X7_readCell_52, e_X7_readCell_53, e_X7_readCell_54, e_X7_readCell_55, e_X7_readCell_56, e_X7_readCell_57, e_X7_readCell_59, e_X7_readCell_61, e_X7_readCell_62, e_X7_readCell_63, e_X7_readCell_65, e_X7_readCell_68, mt_rd, show (3 : Nat) < 44 by decide, show (4 : Nat) < 44 by decide, h3, h4, q, u, if_true, g, if_false, k_faults', jm_bd_v, true_or, or_true]
    · simp only [e_X7_readCell_0, e_X7_readCell_1, e_X7_readCell_4, e_X7_readCell_5, e_X7_readCell_6, e_X7_readCell_7, e_X7_readCell_8, e_X7_readCell_10, e_X7_readCell_13, e_X7_readCell_14, e_X7_readCell_17, e_X7_readCell_18, e_X7_readCell_19, e_X7_readCell_22, e_X7_readCell_23, e_X7_readCell_24, e_X7_readCell_27, e_X7_readCell_28, e_X7_readCell_29, e_X7_readCell_32, e_X7_readCell_33, e_X7_readCell_36, e_X7_readCell_37, e_X7_readCell_40, e_X7_readCell_41, e_X7_readCell_42, e_X7_readCell_45, e_X7_readCell_46, e_X7_readCell_49, e_X7_readCell_50, e_X7_readCell_51, e_X7_readCell_52, e_X7_readCell_53, e_X7_readCell_54, e_X7_readCell_55, e_X7_readCell_56, e_X7_readCell_57, e_X7_readCell_59, e_X7_readCell_61, e_X7_readCell_62, e_X7_readCell_63, e_X7_readCell_65, e_X7_readCell_68, mt_rd, show (3 : Nat) < 44 by decide, show (4 : Nat) < 44 by decide, h3, h4, q, if_neg u, g, if_false, k_faults', jm_bd_v, true_or, or_true]
  · have hn0 : n = 0 := by omega
    subst hn0
    have u : c = 6 := by omega
    rw [if_neg z]
    simp only [e_X7_readCell_0, e_X7_readCell_1, e_X7_readCell_4, e_X7_readCell_5, e_X7_readCell_6, e_X7_readCell_7, e_X7_readCell_8, e_X7_readCell_10, e_X7_readCell_13, e_X7_readCell_14, e_X7_readCell_17, e_X7_readCell_18, e_X7_readCell_19, e_X7_readCell_22, e_X7_readCell_23, e_X7_readCell_24, e_X7_readCell_27, e_X7_readCell_28, e_X7_readCell_29, e_X7_readCell_32, e_X7_readCell_33, e_X7_readCell_36, e_X7_readCell_37, e_X7_readCell_40, e_X7_readCell_41, e_X7_readCell_42, e_X7_readCell_45, e_X7_readCell_46, e_X7_readCell_49, e_X7_readCell_50, e_X7_readCell_51, e_X7_readCell_52, e_X7_readCell_53, e_X7_readCell_54, e_X7_readCell_55, e_X7_readCell_56, e_X7_readCell_57, e_X7_readCell_59, e_X7_readCell_61, e_X7_readCell_62, e_X7_readCell_63, e_X7_readCell_65, e_X7_readCell_68, mt_rd, show (3 : Nat) < 44 by decide, show (4 : Nat) < 44 by decide, h3, h4, q, u, if_true, show nI 0 ≤ nI 0 by decide, k_faults', jm_bd_v, true_or, or_true]
theorem rc_go {c : Nat} {g : Int32} {M : jm_M} (hT : MT m k B) (hc : c < 6) (h3 : rd 3 = nI c) (h4 : rd 4 = nI 0) (h : p < k) (hs : sgn (B p)) (hg : g = nI 0 ∨ g = nI 1) (hr : jm_K (d + 3) md_X7_takesNumber [.ref 217, .int (nI 0), .int (nI 30), .int (nI (8 + c)), .int (nI 59)] (jm_mk (mt B k m (p + 1) w (upd rd 3 (nI (c + 1))))) = some (some (.int g), M)) : jm_K (d + 4) md_X7_readCell [.ref 217] (jm_mk (mt B k m p w rd)) = some (some (.int g), M) := by
  show jm_R (d + 4) md_X7_readCell 0 [.ref 217, .null] [] _ = _
  have q : ¬ nI c = nI 6 := fun e => by have := (nI_eq (by omega) (by omega)).mp e; omega
  simp only [e_X7_readCell_0, e_X7_readCell_1, e_X7_readCell_4, e_X7_readCell_5, e_X7_readCell_6, e_X7_readCell_7, e_X7_readCell_8, e_X7_readCell_10, e_X7_readCell_13, e_X7_readCell_14, e_X7_readCell_17, e_X7_readCell_18, e_X7_readCell_19, e_X7_readCell_22, e_X7_readCell_23, e_X7_readCell_24, e_X7_readCell_27, e_X7_readCell_28, e_X7_readCell_29, e_X7_readCell_32, e_X7_readCell_33, e_X7_readCell_36, e_X7_readCell_37, e_X7_readCell_40, e_X7_readCell_41, e_X7_readCell_42, e_X7_readCell_45, e_X7_readCell_46, e_X7_readCell_49, e_X7_readCell_50, e_X7_readCell_51, e_X7_readCell_52, e_X7_readCell_53, e_X7_readCell_54, e_X7_readCell_55, e_X7_readCell_56, e_X7_readCell_57, e_X7_readCell_59, e_X7_readCell_61, e_X7_readCell_62, e_X7_readCell_63, e_X7_readCell_65, e_X7_readCell_68, mt_rd, show (3 : Nat) < 44 by decide, show (4 : Nat) < 44 by decide, h3, h4, q, if_false, show nI 0 ≤ nI 0 by decide, if_true, k_nt1 hT h hs, jm_bd_0, nI_add, mt_ur, hr, jm_bd_v, hg]
theorem rb_full {c b : Nat} {kd : Int32} (hc : c ≤ 6) (hb : b ≤ 6) (h3 : rd 3 = nI c) (h4 : rd 4 = nI b) (h : b = 6 ∨ c = 0) : jm_K (d + 1) md_X7_readBoat [.ref 217, .int kd] (jm_mk (mt B k m p w rd)) = some (some (.int (nI 0)), jm_mk (mt B k m p (nI (if c = 0 then 1 else 3)) rd)) := by
  show jm_R (d + 1) md_X7_readBoat 0 [.ref 217, .int kd, .null, .null] [] _ = _
  have q : (nI b = nI 6) = (b = 6) := propext (nI_eq (by omega) (by omega))
  have q0 : (nI c = nI 0) = (c = 0) := propext (nI_eq (by omega) (by omega))
  by_cases z : c = 0
  · rw [if_pos z]
    by_cases u : b = 6
    · simp only [e_X7_readBoat_0, e_X7_readBoat_1, e_X7_readBoat_4, e_X7_readBoat_5, e_X7_readBoat_6, e_X7_readBoat_7, e_X7_readBoat_8, e_X7_readBoat_10, e_X7_readBoat_13, e_X7_readBoat_14, e_X7_readBoat_17, e_X7_readBoat_18, e_X7_readBoat_19, e_X7_readBoat_22, e_X7_readBoat_23, e_X7_readBoat_24, e_X7_readBoat_27, e_X7_readBoat_28, e_X7_readBoat_29, e_X7_readBoat_32, e_X7_readBoat_33, e_X7_readBoat_36, e_X7_readBoat_37, e_X7_readBoat_40, e_X7_readBoat_41, e_X7_readBoat_42, e_X7_readBoat_45, e_X7_readBoat_46, e_X7_readBoat_49, e_X7_readBoat_51, e_X7_readBoat_52, e_X7_readBoat_53, e_X7_readBoat_54, e_X7_readBoat_55, e_X7_readBoat_56, e_X7_readBoat_59, e_X7_readBoat_60, e_X7_readBoat_61, e_X7_readBoat_62, e_X7_readBoat_63, e_X7_readBoat_64, e_X7_readBoat_65, e_X7_readBoat_66, e_X7_readBoat_67, e_X7_readBoat_69, e_X7_readBoat_71, e_X7_readBoat_72, e_X7_readBoat_73, e_X7_readBoat_75, e_X7_readBoat_78, e_X7_readBoat_79, e_X7_readBoat_80, e_X7_readBoat_83, e_X7_readBoat_85, e_X7_readBoat_86, e_X7_readBoat_87, e_X7_readBoat_88, e_X7_readBoat_91, e_X7_readBoat_93, e_X7_readBoat_94, e_X7_readBoat_95, e_X7_readBoat_96, e_X7_readBoat_97, e_X7_readBoat_98, e_X7_readBoat_101, e_X7_readBoat_102, e_X7_readBoat_103, e_X7_readBoat_105, e_X7_readBoat_107, e_X7_readBoat_108, e_X7_readBoat_109, e_X7_readBoat_111, e_X7_readBoat_114, e_X7_readBoat_117, e_X7_readBoat_118, e_X7_readBoat_121, e_X7_readBoat_122, mt_rd, show (3 : Nat) < 44 by decide, show (4 : Nat) < 44 by decide, h3, h4, q, u, if_true, q0, z, not_true_eq_false, if_false, k_faults', jm_bd_v, true_or, or_true]
    · simp only [e_X7_readBoat_0, e_X7_readBoat_1, e_X7_readBoat_4, e_X7_readBoat_5, e_X7_readBoat_6, e_X7_readBoat_7, e_X7_readBoat_8, e_X7_readBoat_10, e_X7_readBoat_13, e_X7_readBoat_14, e_X7_readBoat_17, e_X7_readBoat_18, e_X7_readBoat_19, e_X7_readBoat_22, e_X7_readBoat_23, e_X7_readBoat_24, e_X7_readBoat_27, e_X7_readBoat_28, e_X7_readBoat_29, e_X7_readBoat_32, e_X7_readBoat_33, e_X7_readBoat_36, e_X7_readBoat_37, e_X7_readBoat_40, e_X7_readBoat_41, e_X7_readBoat_42, e_X7_readBoat_45, e_X7_readBoat_46, e_X7_readBoat_49, e_X7_readBoat_51, e_X7_readBoat_52, e_X7_readBoat_53, e_X7_readBoat_54, e_X7_readBoat_55, e_X7_readBoat_56, e_X7_readBoat_59, e_X7_readBoat_60, e_X7_readBoat_61, e_X7_readBoat_62, e_X7_readBoat_63, e_X7_readBoat_64, e_X7_readBoat_65, e_X7_readBoat_66, e_X7_readBoat_67, e_X7_readBoat_69, e_X7_readBoat_71, e_X7_readBoat_72, e_X7_readBoat_73, e_X7_readBoat_75, e_X7_readBoat_78, e_X7_readBoat_79, e_X7_readBoat_80, e_X7_readBoat_83, e_X7_readBoat_85, e_X7_readBoat_86, e_X7_readBoat_87, e_X7_readBoat_88, e_X7_readBoat_91, e_X7_readBoat_93, e_X7_readBoat_94, e_X7_readBoat_95, e_X7_readBoat_96, e_X7_readBoat_97, e_X7_readBoat_98, e_X7_readBoat_101, e_X7_readBoat_102, e_X7_readBoat_103, e_X7_readBoat_105, e_X7_readBoat_107, e_X7_readBoat_108, e_X7_readBoat_109, e_X7_readBoat_111, e_X7_readBoat_114, e_X7_readBoat_117, e_X7_readBoat_118, e_X7_readBoat_121, e_X7_readBoat_122, mt_rd, show (3 : Nat) < 44 by decide, show (4 : Nat) < 44 by decide, h3, h4, q, if_neg u, q0, z, not_true_eq_false, if_false, k_faults', jm_bd_v, true_or, or_true]
  · have u : b = 6 := by omega
    rw [if_neg z]
    simp only [e_X7_readBoat_0, e_X7_readBoat_1, e_X7_readBoat_4, e_X7_readBoat_5, e_X7_readBoat_6, e_X7_readBoat_7, e_X7_readBoat_8, e_X7_readBoat_10, e_X7_readBoat_13, e_X7_readBoat_14, e_X7_readBoat_17, e_X7_readBoat_18, e_X7_readBoat_19, e_X7_readBoat_22, e_X7_readBoat_23, e_X7_readBoat_24, e_X7_readBoat_27, e_X7_readBoat_28, e_X7_readBoat_29, e_X7_readBoat_32, e_X7_readBoat_33, e_X7_readBoat_36, e_X7_readBoat_37, e_X7_readBoat_40, e_X7_readBoat_41, e_X7_readBoat_42, e_X7_readBoat_45, e_X7_readBoat_46, e_X7_readBoat_49, e_X7_readBoat_51, e_X7_readBoat_52, e_X7_readBoat_53, e_X7_readBoat_54, e_X7_readBoat_55, e_X7_readBoat_56, e_X7_readBoat_59, e_X7_readBoat_60, e_X7_readBoat_61, e_X7_readBoat_62, e_X7_readBoat_63, e_X7_readBoat_64, e_X7_readBoat_65, e_X7_readBoat_66, e_X7_readBoat_67, e_X7_readBoat_69, e_X7_readBoat_71, e_X7_readBoat_72, e_X7_readBoat_73, e_X7_readBoat_75, e_X7_readBoat_78, e_X7_readBoat_79, e_X7_readBoat_80, e_X7_readBoat_83, e_X7_readBoat_85, e_X7_readBoat_86, e_X7_readBoat_87, e_X7_readBoat_88, e_X7_readBoat_91, e_X7_readBoat_93, e_X7_readBoat_94, e_X7_readBoat_95, e_X7_readBoat_96, e_X7_readBoat_97, e_X7_readBoat_98, e_X7_readBoat_101, e_X7_readBoat_102, e_X7_readBoat_103, e_X7_readBoat_105, e_X7_readBoat_107, e_X7_readBoat_108, e_X7_readBoat_109, e_X7_readBoat_111, e_X7_readBoat_114, e_X7_readBoat_117, e_X7_readBoat_118, e_X7_readBoat_121, e_X7_readBoat_122, mt_rd, show (3 : Nat) < 44 by decide, show (4 : Nat) < 44 by decide, h3, h4, q, u, if_true, q0, z, not_false_eq_true, k_faults', jm_bd_v, true_or, or_true]
def rdB (rd : Nat → Int32) (b : Nat) (kd : Int32) : Nat → Int32 := upd (upd rd (14 + b) kd) 4 (nI (b + 1))
def rdO (rd : Nat → Int32) (b : Nat) : Nat → Int32 := upd rd (32 + b) (rd (20 + b))
theorem rb_n {c b q : Nat} {kd w' : Int32} {rd1 : Nat → Int32} (hT : MT m k B) (hc : c ≤ 6) (hc1 : 1 ≤ c) (hb : b < 6) (h3 : rd 3 = nI c) (h4 : rd 4 = nI b) (h : p < k) (hs : sgn (B p)) (hr : jm_K (d + 3) md_X7_takesNumber [.ref 217, .int (nI 0), .int (nI 60), .int (nI (20 + b)), .int (nI 44)] (jm_mk (mt B k m (p + 1) w (rdB rd b kd))) = some (some (.int (nI 0)), jm_mk (mt B k m q w' rd1))) : jm_K (d + 4) md_X7_readBoat [.ref 217, .int kd] (jm_mk (mt B k m p w rd)) = some (some (.int (nI 0)), jm_mk (mt B k m q w' (rdO rd1 b))) := by
  show jm_R (d + 4) md_X7_readBoat 0 [.ref 217, .int kd, .null, .null] [] _ = _
  have q6 : ¬ nI b = nI 6 := fun e => by have := (nI_eq (by omega) (by omega)).mp e; omega
  have q0 : ¬ nI c = nI 0 := fun e => by have := (nI_eq (by omega) (by omega)).mp e; omega
  have u4 : upd rd (14 + b) kd 4 = nI b := by rw [pk_un (by omega)]; exact h4
  have a14 : 14 + b < 44 := by omega
  have a20 : 20 + b < 44 := by omega
  have a32 : 32 + b < 44 := by omega
  unfold rdB at hr
  unfold rdO
  simp only [e_X7_readBoat_0, e_X7_readBoat_1, e_X7_readBoat_4, e_X7_readBoat_5, e_X7_readBoat_6, e_X7_readBoat_7, e_X7_readBoat_8, e_X7_readBoat_10, e_X7_readBoat_13, e_X7_readBoat_14, e_X7_readBoat_17, e_X7_readBoat_18, e_X7_readBoat_19, e_X7_readBoat_22, e_X7_readBoat_23, e_X7_readBoat_24, e_X7_readBoat_27, e_X7_readBoat_28, e_X7_readBoat_29, e_X7_readBoat_32, e_X7_readBoat_33, e_X7_readBoat_36, e_X7_readBoat_37, e_X7_readBoat_40, e_X7_readBoat_41, e_X7_readBoat_42, e_X7_readBoat_45, e_X7_readBoat_46, e_X7_readBoat_49, e_X7_readBoat_51, e_X7_readBoat_52, e_X7_readBoat_53, e_X7_readBoat_54, e_X7_readBoat_55, e_X7_readBoat_56, e_X7_readBoat_59, e_X7_readBoat_60, e_X7_readBoat_61, e_X7_readBoat_62, e_X7_readBoat_63, e_X7_readBoat_64, e_X7_readBoat_65, e_X7_readBoat_66, e_X7_readBoat_67, e_X7_readBoat_69, e_X7_readBoat_71, e_X7_readBoat_72, e_X7_readBoat_73, e_X7_readBoat_75, e_X7_readBoat_78, e_X7_readBoat_79, e_X7_readBoat_80, e_X7_readBoat_83, e_X7_readBoat_85, e_X7_readBoat_86, e_X7_readBoat_87, e_X7_readBoat_88, e_X7_readBoat_91, e_X7_readBoat_93, e_X7_readBoat_94, e_X7_readBoat_95, e_X7_readBoat_96, e_X7_readBoat_97, e_X7_readBoat_98, e_X7_readBoat_101, e_X7_readBoat_102, e_X7_readBoat_103, e_X7_readBoat_105, e_X7_readBoat_107, e_X7_readBoat_108, e_X7_readBoat_109, e_X7_readBoat_111, e_X7_readBoat_114, e_X7_readBoat_117, e_X7_readBoat_118, e_X7_readBoat_121, e_X7_readBoat_122, mt_rd, show (3 : Nat) < 44 by decide, show (4 : Nat) < 44 by decide, h3, h4, q6, if_false, q0, not_false_eq_true, if_true, k_nt1 hT h hs, jm_bd_0, nI_add, a14, a20, a32, mt_ur, u4, hr, jm_bd_v, true_or, or_true]
theorem rb_y {c b q : Nat} {kd w' g : Int32} {rd1 : Nat → Int32} {M : jm_M} (hT : MT m k B) (hc : c ≤ 6) (hc1 : 1 ≤ c) (hb : b < 6) (h3 : rd 3 = nI c) (h4 : rd 4 = nI b) (h : p < k) (hs : sgn (B p)) (hg : g = nI 0 ∨ g = nI 1) (hr : jm_K (d + 3) md_X7_takesNumber [.ref 217, .int (nI 0), .int (nI 60), .int (nI (20 + b)), .int (nI 44)] (jm_mk (mt B k m (p + 1) w (rdB rd b kd))) = some (some (.int (nI 1)), jm_mk (mt B k m q w' rd1))) (hr2 : jm_K (d + 3) md_X7_takesNumber [.ref 217, .int (nI 1), .int (nI 9), .int (nI (26 + b)), .int (nI 59)] (jm_mk (mt B k m q w' (rdO rd1 b))) = some (some (.int g), M)) : jm_K (d + 4) md_X7_readBoat [.ref 217, .int kd] (jm_mk (mt B k m p w rd)) = some (some (.int g), M) := by
  show jm_R (d + 4) md_X7_readBoat 0 [.ref 217, .int kd, .null, .null] [] _ = _
  have q6 : ¬ nI b = nI 6 := fun e => by have := (nI_eq (by omega) (by omega)).mp e; omega
  have q0 : ¬ nI c = nI 0 := fun e => by have := (nI_eq (by omega) (by omega)).mp e; omega
  have u4 : upd rd (14 + b) kd 4 = nI b := by rw [pk_un (by omega)]; exact h4
  have a14 : 14 + b < 44 := by omega
  have a20 : 20 + b < 44 := by omega
  have a32 : 32 + b < 44 := by omega
  unfold rdB at hr
  unfold rdO at hr2
  rcases hg with rfl | rfl
  · simp only [e_X7_readBoat_0, e_X7_readBoat_1, e_X7_readBoat_4, e_X7_readBoat_5, e_X7_readBoat_6, e_X7_readBoat_7, e_X7_readBoat_8, e_X7_readBoat_10, e_X7_readBoat_13, e_X7_readBoat_14, e_X7_readBoat_17, e_X7_readBoat_18, e_X7_readBoat_19, e_X7_readBoat_22, e_X7_readBoat_23, e_X7_readBoat_24, e_X7_readBoat_27, e_X7_readBoat_28, e_X7_readBoat_29, e_X7_readBoat_32, e_X7_readBoat_33, e_X7_readBoat_36, e_X7_readBoat_37, e_X7_readBoat_40, e_X7_readBoat_41, e_X7_readBoat_42, e_X7_readBoat_45, e_X7_readBoat_46, e_X7_readBoat_49, e_X7_readBoat_51, e_X7_readBoat_52, e_X7_readBoat_53, e_X7_readBoat_54, e_X7_readBoat_55, e_X7_readBoat_56, e_X7_readBoat_59, e_X7_readBoat_60, e_X7_readBoat_61, e_X7_readBoat_62, e_X7_readBoat_63, e_X7_readBoat_64, e_X7_readBoat_65, e_X7_readBoat_66, e_X7_readBoat_67, e_X7_readBoat_69, e_X7_readBoat_71, e_X7_readBoat_72, e_X7_readBoat_73, e_X7_readBoat_75, e_X7_readBoat_78, e_X7_readBoat_79, e_X7_readBoat_80, e_X7_readBoat_83, e_X7_readBoat_85, e_X7_readBoat_86, e_X7_readBoat_87, e_X7_readBoat_88, e_X7_readBoat_91, e_X7_readBoat_93, e_X7_readBoat_94, e_X7_readBoat_95, e_X7_readBoat_96, e_X7_readBoat_97, e_X7_readBoat_98, e_X7_readBoat_101, e_X7_readBoat_102, e_X7_readBoat_103, e_X7_readBoat_105, e_X7_readBoat_107, e_X7_readBoat_108, e_X7_readBoat_109, e_X7_readBoat_111, e_X7_readBoat_114, e_X7_readBoat_117, e_X7_readBoat_118, e_X7_readBoat_121, e_X7_readBoat_122, mt_rd, show (3 : Nat) < 44 by decide, show (4 : Nat) < 44 by decide, h3, h4, q6, if_false, q0, not_false_eq_true, if_true, k_nt1 hT h hs, jm_bd_0, nI_add, a14, a20, a32, mt_ur, u4, hr, bv1, hr2, jm_bd_v, true_or, or_true]
  · simp only [e_X7_readBoat_0, e_X7_readBoat_1, e_X7_readBoat_4, e_X7_readBoat_5, e_X7_readBoat_6, e_X7_readBoat_7, e_X7_readBoat_8, e_X7_readBoat_10, e_X7_readBoat_13, e_X7_readBoat_14, e_X7_readBoat_17, e_X7_readBoat_18, e_X7_readBoat_19, e_X7_readBoat_22, e_X7_readBoat_23, e_X7_readBoat_24, e_X7_readBoat_27, e_X7_readBoat_28, e_X7_readBoat_29, e_X7_readBoat_32, e_X7_readBoat_33, e_X7_readBoat_36, e_X7_readBoat_37, e_X7_readBoat_40, e_X7_readBoat_41, e_X7_readBoat_42, e_X7_readBoat_45, e_X7_readBoat_46, e_X7_readBoat_49, e_X7_readBoat_51, e_X7_readBoat_52, e_X7_readBoat_53, e_X7_readBoat_54, e_X7_readBoat_55, e_X7_readBoat_56, e_X7_readBoat_59, e_X7_readBoat_60, e_X7_readBoat_61, e_X7_readBoat_62, e_X7_readBoat_63, e_X7_readBoat_64, e_X7_readBoat_65, e_X7_readBoat_66, e_X7_readBoat_67, e_X7_readBoat_69, e_X7_readBoat_71, e_X7_readBoat_72, e_X7_readBoat_73, e_X7_readBoat_75, e_X7_readBoat_78, e_X7_readBoat_79, e_X7_readBoat_80, e_X7_readBoat_83, e_X7_readBoat_85, e_X7_readBoat_86, e_X7_readBoat_87, e_X7_readBoat_88, e_X7_readBoat_91, e_X7_readBoat_93, e_X7_readBoat_94, e_X7_readBoat_95, e_X7_readBoat_96, e_X7_readBoat_97, e_X7_readBoat_98, e_X7_readBoat_101, e_X7_readBoat_102, e_X7_readBoat_103, e_X7_readBoat_105, e_X7_readBoat_107, e_X7_readBoat_108, e_X7_readBoat_109, e_X7_readBoat_111, e_X7_readBoat_114, e_X7_readBoat_117, e_X7_readBoat_118, e_X7_readBoat_121, e_X7_readBoat_122, mt_rd, show (3 : Nat) < 44 by decide, show (4 : Nat) < 44 by decide, h3, h4, q6, if_false, q0, not_false_eq_true, if_true, k_nt1 hT h hs, jm_bd_0, nI_add, a14, a20, a32, mt_ur, u4, hr, bv1, hr2, jm_bd_v, true_or, or_true]
end RC
/-! what is read so far, on both sides -/
def II (c n : Nat) (x : Nat → Nat → Int32) (y : Nat → Int32) : Prop := (y 3 = nI c ∧ c ≤ 6) ∧ (y 4 = nI n ∧ n ≤ 6) ∧ (∃ p, 2 ≤ p ∧ p ≤ 24 ∧ y 0 = nI p) ∧ (∃ w, w ≤ 3 ∧ y 2 = nI w) ∧ y 6 = nI 0 ∧ y 7 = -1 ∧ (∀ b, b < 6 → y (38 + b) = nI 0) ∧ (∀ b, b < n → (∃ k, 1 ≤ k ∧ k ≤ 5 ∧ y (14 + b) = nI k) ∧ (∃ t, t ≤ 60 ∧ y (32 + b) = nI t ∧ y (20 + b) = nI t) ∧ (∃ p, 1 ≤ p ∧ p ≤ 9 ∧ y (26 + b) = nI p)) ∧ IR x y c n
theorem II.gx {c n : Nat} {x : Nat → Nat → Int32} {y : Nat → Int32} (h : II c n x y) (hc : 1 ≤ c) (hn : 1 ≤ n) : GX x y := by
  obtain ⟨⟨a1, a2⟩, ⟨b1, b2⟩, c1, d1, e1, f1, g1, h1, i1⟩ := h
  refine ⟨c, n, none, ⟨⟨a1, hc, a2⟩, ⟨b1, hn, b2⟩, c1, d1, ⟨0, Nat.pow_pos (by decide), e1⟩, ⟨f1, fun b hb => by cases hb⟩, fun b hb => ?_⟩, i1⟩
  obtain ⟨q1, ⟨t, t1, t2, t3⟩, q3⟩ := h1 b hb
  exact ⟨q1, ⟨t, t, Nat.le_refl _, t1, t2, t3⟩, q3⟩
theorem II.cell {c v : Nat} {x : Nat → Nat → Int32} {y : Nat → Int32} (h : II c 0 x y) (hc : c < 6) : II (c + 1) 0 (jm_up (jm_up x 1 c (nI v)) 0 5 (nI (c + 1))) (upd (upd y 3 (nI (c + 1))) (8 + c) (nI v)) := by
  obtain ⟨⟨a1, a2⟩, ⟨b1, b2⟩, ⟨p, p1, p2, p3⟩, ⟨w, w1, w2⟩, e1, f1, g1, h1, ⟨i0, i1, i2, i3, i4, i5, i6, i7⟩, i8, i9⟩ := h
  have u : ∀ j, j ≠ 3 → j ≠ 8 + c → upd (upd y 3 (nI (c + 1))) (8 + c) (nI v) j = y j := fun j h1 h2 => by rw [pk_un h2, pk_un h1]
  have z : ∀ j, j ≠ 5 → jm_up (jm_up x 1 c (nI v)) 0 5 (nI (c + 1)) 0 j = x 0 j := fun j hj => by rw [jup_ne (fun q => hj q.2), jupr (by decide)]
  have u3 : upd (upd y 3 (nI (c + 1))) (8 + c) (nI v) 3 = nI (c + 1) := by rw [pk_un (by omega), pk_us]
  refine ⟨⟨u3, by omega⟩, ⟨by rw [u 4 (by omega) (by omega)]; exact b1, b2⟩, ⟨p, p1, p2, by rw [u 0 (by omega) (by omega)]; exact p3⟩, ⟨w, w1, by rw [u 2 (by omega) (by omega)]; exact w2⟩, by rw [u 6 (by omega) (by omega)]; exact e1, by rw [u 7 (by omega) (by omega)]; exact f1, fun b hb => by rw [u (38 + b) (by omega) (by omega)]; exact g1 b hb, fun b hb => by omega, ⟨by rw [z 0 (by decide), u 0 (by omega) (by omega)]; exact i0, by rw [z 1 (by decide), u 1 (by omega) (by omega)]; exact i1, by rw [z 2 (by decide), u 2 (by omega) (by omega)]; exact i2, by rw [z 3 (by decide), u 5 (by omega) (by omega)]; exact i3, by rw [z 4 (by decide), u 7 (by omega) (by omega)]; exact i4, by rw [jup_eq, u3], by rw [z 6 (by decide), u 4 (by omega) (by omega)]; exact i6, by rw [z 7 (by decide), u 6 (by omega) (by omega)]; exact i7⟩, fun i hi => ?_, fun b hb => by omega⟩
  rw [jupr (by decide)]
  by_cases q : i = c
  · subst q
    rw [jup_eq, pk_us]
  · rw [jup_ne (fun e => q e.2), u (8 + i) (by omega) (by omega)]
    exact i8 i (by omega)
theorem II.boat {c b kd t v : Nat} {x : Nat → Nat → Int32} {y : Nat → Int32} (h : II c b x y) (hb : b < 6) (k1 : 1 ≤ kd) (k5 : kd ≤ 5) (ht : t ≤ 60) (v1 : 1 ≤ v) (v9 : v ≤ 9) : II c (b + 1) (jm_up (jm_up (jm_up (jm_up (jm_up (jm_up x 2 b (nI kd)) 3 b (nI t)) 4 b (nI t)) 5 b (nI v)) 6 b (nI 0)) 0 6 (nI (b + 1))) (upd (rdO (upd (rdB y b (nI kd)) (20 + b) (nI t)) b) (26 + b) (nI v)) := by
  obtain ⟨⟨a1, a2⟩, ⟨b1, b2⟩, ⟨p, p1, p2, p3⟩, ⟨w, w1, w2⟩, e1, f1, g1, h1, ⟨i0, i1, i2, i3, i4, i5, i6, i7⟩, i8, i9⟩ := h
  generalize hY : upd (rdO (upd (rdB y b (nI kd)) (20 + b) (nI t)) b) (26 + b) (nI v) = Y
  generalize hX : jm_up (jm_up (jm_up (jm_up (jm_up (jm_up x 2 b (nI kd)) 3 b (nI t)) 4 b (nI t)) 5 b (nI v)) 6 b (nI 0)) 0 6 (nI (b + 1)) = X
  have u : ∀ j, j ≠ 4 → j ≠ 14 + b → j ≠ 20 + b → j ≠ 26 + b → j ≠ 32 + b → Y j = y j := fun j h1 h2 h3 h4 h5 => by
    rw [← hY, pk_un h4]
    unfold rdO
    rw [pk_un h5, pk_un h3]
    unfold rdB
    rw [pk_un h1, pk_un h2]
  have u4 : Y 4 = nI (b + 1) := by
    rw [← hY, pk_un (by omega)]
    unfold rdO
    rw [pk_un (by omega), pk_un (by omega)]
    unfold rdB
    rw [pk_us]
  have u14 : Y (14 + b) = nI kd := by
    rw [← hY, pk_un (by omega)]
    unfold rdO
    rw [pk_un (by omega), pk_un (by omega)]
    unfold rdB
    rw [pk_un (by omega), pk_us]
  have u20 : Y (20 + b) = nI t := by
    rw [← hY, pk_un (by omega)]
    unfold rdO
    rw [pk_un (by omega), pk_us]
  have u26 : Y (26 + b) = nI v := by rw [← hY, pk_us]
  have u32 : Y (32 + b) = nI t := by
    rw [← hY, pk_un (by omega)]
    unfold rdO
    rw [pk_us, pk_us]
  have z0 : ∀ j, j ≠ 6 → X 0 j = x 0 j := fun j hj => by rw [← hX, jup_ne (fun q => hj q.2), jupr (by decide), jupr (by decide), jupr (by decide), jupr (by decide), jupr (by decide)]
  have z6 : X 0 6 = nI (b + 1) := by rw [← hX, jup_eq]
  have z1 : X 1 = x 1 := by rw [← hX, jupr (by decide), jupr (by decide), jupr (by decide), jupr (by decide), jupr (by decide), jupr (by decide)]
  have y2 : ∀ j, X 2 j = jm_up x 2 b (nI kd) 2 j := fun j => by rw [← hX, jupr (by decide), jupr (by decide), jupr (by decide), jupr (by decide), jupr (by decide)]
  have y3 : ∀ j, X 3 j = jm_up x 3 b (nI t) 3 j := fun j => by
    rw [← hX, jupr (by decide), jupr (by decide), jupr (by decide), jupr (by decide)]
    by_cases q : j = b
    · subst q; rw [jup_eq, jup_eq]
    · repeat rw [jup_ne (fun e => q e.2)]
  have y4 : ∀ j, X 4 j = jm_up x 4 b (nI t) 4 j := fun j => by
    rw [← hX, jupr (by decide), jupr (by decide), jupr (by decide)]
    by_cases q : j = b
    · subst q; rw [jup_eq, jup_eq]
    · repeat rw [jup_ne (fun e => q e.2)]
  have y5 : ∀ j, X 5 j = jm_up x 5 b (nI v) 5 j := fun j => by
    rw [← hX, jupr (by decide), jupr (by decide)]
    by_cases q : j = b
    · subst q; rw [jup_eq, jup_eq]
    · repeat rw [jup_ne (fun e => q e.2)]
  have y6 : ∀ j, X 6 j = jm_up x 6 b (nI 0) 6 j := fun j => by
    rw [← hX, jupr (by decide)]
    by_cases q : j = b
    · subst q; rw [jup_eq, jup_eq]
    · repeat rw [jup_ne (fun e => q e.2)]
  have U : ∀ j, (j < 4 ∨ (4 < j ∧ j < 14) ∨ 38 ≤ j) → Y j = y j := fun j hj => u j (by omega) (by omega) (by omega) (by omega) (by omega)
  refine ⟨⟨by rw [U 3 (by omega)]; exact a1, a2⟩, ⟨u4, by omega⟩, ⟨p, p1, p2, by rw [U 0 (by omega)]; exact p3⟩, ⟨w, w1, by rw [U 2 (by omega)]; exact w2⟩, by rw [U 6 (by omega)]; exact e1, by rw [U 7 (by omega)]; exact f1, fun b' hb' => by rw [U (38 + b') (by omega)]; exact g1 b' hb', fun b' hb' => ?_, ⟨by rw [z0 0 (by decide), U 0 (by omega)]; exact i0, by rw [z0 1 (by decide), U 1 (by omega)]; exact i1, by rw [z0 2 (by decide), U 2 (by omega)]; exact i2, by rw [z0 3 (by decide), U 5 (by omega)]; exact i3, by rw [z0 4 (by decide), U 7 (by omega)]; exact i4, by rw [z0 5 (by decide), U 3 (by omega)]; exact i5, by rw [z6, u4], by rw [z0 7 (by decide), U 6 (by omega)]; exact i7⟩, fun i hi => by rw [z1, U (8 + i) (by omega)]; exact i8 i hi, fun b' hb' => ?_⟩
  · by_cases q : b' = b
    · subst q
      exact ⟨⟨kd, k1, k5, u14⟩, ⟨t, ht, u32, u20⟩, ⟨v, v1, v9, u26⟩⟩
    · rw [u (14 + b') (by omega) (by omega) (by omega) (by omega) (by omega), u (20 + b') (by omega) (by omega) (by omega) (by omega) (by omega), u (26 + b') (by omega) (by omega) (by omega) (by omega) (by omega), u (32 + b') (by omega) (by omega) (by omega) (by omega) (by omega)]
      exact h1 b' (by omega)
  · rw [y2, y3, y4, y5, y6]
    by_cases q : b' = b
    · subst q
      rw [jup_eq, jup_eq, jup_eq, jup_eq, jup_eq, u14, u32, u20, u26, U (38 + b') (by omega), g1 b' (by omega)]
      exact ⟨rfl, rfl, rfl, rfl, rfl⟩
    · rw [jup_ne (fun e => q e.2), jup_ne (fun e => q e.2), jup_ne (fun e => q e.2), jup_ne (fun e => q e.2), jup_ne (fun e => q e.2), u (14 + b') (by omega) (by omega) (by omega) (by omega) (by omega), u (20 + b') (by omega) (by omega) (by omega) (by omega) (by omega), u (26 + b') (by omega) (by omega) (by omega) (by omega) (by omega), u (32 + b') (by omega) (by omega) (by omega) (by omega) (by omega), U (38 + b') (by omega)]
      exact i9 b' (by omega)
