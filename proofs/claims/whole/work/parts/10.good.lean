def jm_tab (c : Nat) : vw_C := vwCl.getD c (RX0, TX0, 3)
theorem jm_memG {w : Cond} (h : w ∈ tables_1) (hg : goodWord w = true) : w ∈ jm_G := List.mem_filter.mpr ⟨List.mem_append_right _ h, hg⟩
theorem jm_memP {w : Cond} (h : w ∈ k2_sels lw_privs) (hg : goodWord w = true) : w ∈ jm_G := List.mem_filter.mpr ⟨List.mem_append_left _ h, hg⟩
theorem jm_pos {ws : List Cond} (ps : List Nat) (hp : ws = ps.filterMap (fun i => tables_1[i]?)) (hg : ws.all goodWord = true) : ∀ w ∈ ws, w ∈ jm_G := by
  intro w hw
  have h1 := List.all_eq_true.mp hg w hw
  rw [hp] at hw
  obtain ⟨i, -, hi⟩ := List.mem_filterMap.mp hw
  exact jm_memG (List.mem_of_getElem? hi) h1
set_option maxRecDepth 100000 in
theorem jm_G_u0 : ∀ w ∈ u_ws RX0 TX0 3, w ∈ jm_G := jm_pos [149, 151, 153] (by decide +kernel) (by decide +kernel)
set_option maxRecDepth 100000 in
theorem jm_G_u1 : ∀ w ∈ u_ws RX1 TX1 3, w ∈ jm_G := jm_pos [184, 186, 188] (by decide +kernel) (by decide +kernel)
set_option maxRecDepth 100000 in
theorem jm_G_u2 : ∀ w ∈ u_ws RX2 TX2 14, w ∈ jm_G := jm_pos [116, 118, 120, 122, 124, 126, 128, 130, 132, 134, 136, 138, 140, 142] (by decide +kernel) (by decide +kernel)
set_option maxRecDepth 100000 in
theorem jm_G_u3 : ∀ w ∈ u_ws RX3 TX3 3, w ∈ jm_G := jm_pos [32, 34, 36] (by decide +kernel) (by decide +kernel)
set_option maxRecDepth 100000 in
theorem jm_G_u4 : ∀ w ∈ u_ws RX4 TX4 2, w ∈ jm_G := jm_pos [168, 170] (by decide +kernel) (by decide +kernel)
set_option maxRecDepth 100000 in
theorem jm_G_u5 : ∀ w ∈ u_ws RX5 TX5 5, w ∈ jm_G := jm_pos [53, 55, 57, 59, 61] (by decide +kernel) (by decide +kernel)
set_option maxRecDepth 100000 in
theorem jm_G_u6 : ∀ w ∈ u_ws RX6 TX6 8, w ∈ jm_G := jm_pos [199, 201, 203, 205, 207, 209, 211, 213] (by decide +kernel) (by decide +kernel)
set_option maxRecDepth 100000 in
theorem jm_G_u7 : ∀ w ∈ u_ws RX7 TX7 23, w ∈ jm_G := jm_pos [736, 738, 740, 742, 744, 746, 748, 750, 752, 754, 756, 758, 760, 762, 764, 766, 768, 770, 772, 774, 776, 778, 780] (by decide +kernel) (by decide +kernel)
theorem jm_G_u : ∀ q ∈ vwCl, ∀ w ∈ u_ws q.1 q.2.1 q.2.2, w ∈ jm_G := List.forall_mem_cons.mpr ⟨jm_G_u0, List.forall_mem_cons.mpr ⟨jm_G_u1, List.forall_mem_cons.mpr ⟨jm_G_u2, List.forall_mem_cons.mpr ⟨jm_G_u3, List.forall_mem_cons.mpr ⟨jm_G_u4, List.forall_mem_cons.mpr ⟨jm_G_u5, List.forall_mem_cons.mpr ⟨jm_G_u6, List.forall_mem_cons.mpr ⟨jm_G_u7, fun _ h => absurd h List.not_mem_nil⟩⟩⟩⟩⟩⟩⟩⟩
def jm_fw (e : Nat × Nat × Nat) : Cond := Cond.fieldLink (jm_own (e.1 / 1000)) (e.1 % 1000) ((jm_tab e.2.1).2.1 e.2.2).1 ((jm_tab e.2.1).2.1 e.2.2).2.1 ((jm_tab e.2.1).2.1 e.2.2).2.2.1
set_option maxRecDepth 100000 in
theorem jm_goodF1 : ∀ w ∈ jm_fldT.map jm_fw, w ∈ jm_G := jm_pos [145, 146, 147, 180, 182, 179, 102, 111, 106, 77, 79, 81, 85, 87, 90, 92, 95, 98, 101, 105, 108, 110, 114, 28, 30, 31, 167, 166, 96, 88, 83, 94, 99, 103, 112, 46, 47, 49, 51, 52, 78, 80, 82, 191, 192, 194, 197, 198, 193, 195, 196, 93, 50, 148, 86, 89, 97, 84, 100, 113, 107, 115, 109, 29, 104, 183, 181, 91, 48, 713, 714, 715, 718, 719, 720, 728, 729, 731, 732, 733, 734, 716, 721, 723, 726, 724, 725, 727, 722, 717, 730, 735] (by decide +kernel) (by decide +kernel)
set_option maxRecDepth 100000 in
theorem jm_goodF2 : ∀ e ∈ jm_fldT, e.1 ≠ 0 ∧ e.2.1 < 8 ∧ e.2.2 < (jm_tab e.2.1).2.2 ∧ (jm_own (e.1 / 1000) = ((jm_tab e.2.1).2.1 e.2.2).1 ↔ e.1 / 1000 = e.2.1) := by decide +kernel
theorem jm_goodF {e : Nat × Nat × Nat} (h : e ∈ jm_fldT) : e.1 ≠ 0 ∧ e.2.1 < 8 ∧ e.2.2 < (jm_tab e.2.1).2.2 ∧ jm_fw e ∈ jm_G := ⟨(jm_goodF2 e h).1, (jm_goodF2 e h).2.1, (jm_goodF2 e h).2.2.1, jm_goodF1 _ (List.mem_map_of_mem h)⟩
set_option maxRecDepth 100000 in
theorem jm_goodC1 : ∀ w ∈ jm_cT.map (fun e => Cond.constant (jm_own (e.1 / 1000)) (e.1 % 1000) e.2), w ∈ jm_G := jm_pos [227, 288, 350, 368, 423, 623, 232, 801, 796, 826, 867, 916, 876, 545, 546, 547] (by decide +kernel) (by decide +kernel)
theorem jm_goodC {e : Nat × Int32} (h : e ∈ jm_cT) : e.1 ≠ 0 ∧ Cond.constant (jm_own (e.1 / 1000)) (e.1 % 1000) e.2 ∈ jm_G := ⟨(by decide +kernel : ∀ e ∈ jm_cT, e.1 ≠ 0) e h, jm_goodC1 _ (List.mem_map_of_mem (f := fun e : Nat × Int32 => Cond.constant (jm_own (e.1 / 1000)) (e.1 % 1000) e.2) h)⟩
set_option maxRecDepth 100000 in
theorem jm_goodL1 : ∀ w ∈ jm_clT.map (fun e => Cond.constantLong (jm_own (e.1 / 1000)) (e.1 % 1000) e.2), w ∈ jm_G := jm_pos [615, 628, 629, 634, 635, 602, 791, 795, 825, 839, 840, 841, 842, 881, 929, 938, 939, 940, 945, 962, 1037, 1058, 1059, 1064, 1069, 1070, 1071, 1072] (by decide +kernel) (by decide +kernel)
theorem jm_goodL {e : Nat × Int64} (h : e ∈ jm_clT) : e.1 ≠ 0 ∧ Cond.constantLong (jm_own (e.1 / 1000)) (e.1 % 1000) e.2 ∈ jm_G := ⟨(by decide +kernel : ∀ e ∈ jm_clT, e.1 ≠ 0) e h, jm_goodL1 _ (List.mem_map_of_mem (f := fun e : Nat × Int64 => Cond.constantLong (jm_own (e.1 / 1000)) (e.1 % 1000) e.2) h)⟩
set_option maxRecDepth 100000 in
theorem jm_goodS1 : ∀ w ∈ jm_gsT.map (fun e => Cond.fieldLink (jm_own (e.1 / 1000)) (e.1 % 1000) RX1 (jm_sn e.2) "[I"), w ∈ jm_G := jm_pos [655, 683, 669] (by decide +kernel) (by decide +kernel)
theorem jm_goodS {e : Nat × Nat} (h : e ∈ jm_gsT) : e.1 ≠ 0 ∧ e.2 < 3 ∧ Cond.fieldLink (jm_own (e.1 / 1000)) (e.1 % 1000) RX1 (jm_sn e.2) "[I" ∈ jm_G := ⟨(by decide +kernel : ∀ e ∈ jm_gsT, e.1 ≠ 0) e h, (by decide +kernel : ∀ e ∈ jm_gsT, e.2 < 3) e h, jm_goodS1 _ (List.mem_map_of_mem (f := fun e : Nat × Nat => Cond.fieldLink (jm_own (e.1 / 1000)) (e.1 % 1000) RX1 (jm_sn e.2) "[I") h)⟩
set_option maxRecDepth 100000 in
theorem jm_goodN1 : ∀ w ∈ jm_newT.map (fun e => Cond.classLink (jm_own (e.1 / 1000)) (e.1 % 1000) (jm_tab e.2).1), w ∈ jm_G := jm_pos [70, 164, 20, 40, 64, 156, 158, 173] (by decide +kernel) (by decide +kernel)
theorem jm_goodN1a {e : Nat × Nat} (h : e ∈ jm_newT) : Cond.classLink (jm_own (e.1 / 1000)) (e.1 % 1000) (jm_tab e.2).1 ∈ jm_G := jm_goodN1 _ (List.mem_map_of_mem (f := fun e : Nat × Nat => Cond.classLink (jm_own (e.1 / 1000)) (e.1 % 1000) (jm_tab e.2).1) h)
set_option maxRecDepth 100000 in
theorem jm_goodN2 : ∀ w ∈ jm_newT.map (fun e => Cond.instantiable (jm_tab e.2).1 (jm_tab e.2).2.2), w ∈ jm_G := jm_pos [72, 72, 21, 41, 65, 72, 159, 174] (by decide +kernel) (by decide +kernel)
theorem jm_goodN2a {e : Nat × Nat} (h : e ∈ jm_newT) : Cond.instantiable (jm_tab e.2).1 (jm_tab e.2).2.2 ∈ jm_G := jm_goodN2 _ (List.mem_map_of_mem (f := fun e : Nat × Nat => Cond.instantiable (jm_tab e.2).1 (jm_tab e.2).2.2) h)
set_option maxRecDepth 100000 in
theorem jm_goodN3 : ∀ w ∈ jm_newT.map (fun e => Cond.initialized (jm_tab e.2).1), w ∈ jm_G := jm_pos [5, 5, 2, 3, 4, 5, 6, 7] (by decide +kernel) (by decide +kernel)
theorem jm_goodN3a {e : Nat × Nat} (h : e ∈ jm_newT) : Cond.initialized (jm_tab e.2).1 ∈ jm_G := jm_goodN3 _ (List.mem_map_of_mem (f := fun e : Nat × Nat => Cond.initialized (jm_tab e.2).1) h)
theorem jm_goodN0 : ∀ e ∈ jm_newT, e.1 ≠ 0 ∧ e.2 < 8 := by decide +kernel
set_option maxRecDepth 100000 in
theorem jm_goodY1 : ∀ w ∈ jm_cpyT.map (fun k => Cond.methodLink (jm_own (k / 1000)) (k % 1000) arraycopyName), w ∈ jm_G := jm_pos [355, 269] (by decide +kernel) (by decide +kernel)
set_option maxRecDepth 100000 in
theorem jm_goodY2 : ∀ w ∈ [Cond.native arraycopyName, Cond.static arraycopyName, Cond.initialized "java/lang/System"], w ∈ jm_G := jm_pos [271, 270, 9] (by decide +kernel) (by decide +kernel)
theorem jm_goodY0 : ∀ k ∈ jm_cpyT, k ≠ 0 := by decide +kernel
set_option maxRecDepth 100000 in
theorem jm_goodO1 : ∀ w ∈ jm_objT.map (fun k => Cond.methodLink (jm_own (k / 1000)) (k % 1000) Lib.objectInit), w ∈ jm_G := jm_pos [69, 178, 76, 25, 163, 45, 17, 712] (by decide +kernel) (by decide +kernel)
set_option maxRecDepth 100000 in
theorem jm_goodO2 : ∀ w ∈ [Cond.instanceMethod Lib.objectInit, Cond.code Lib.objectInit ⟨#[0xb1]⟩ 1 none], w ∈ jm_G := jm_pos [18, 19] (by decide +kernel) (by decide +kernel)
theorem jm_goodO0 : ∀ k ∈ jm_objT, k ≠ 0 := by decide +kernel
set_option maxRecDepth 100000 in
theorem jm_good_max1 : ∀ w ∈ jm_maxT.map (fun k => Cond.methodLink (jm_own (k / 1000)) (k % 1000) Lib.Math.max.name), w ∈ jm_G := jm_pos [409] (by decide +kernel) (by decide +kernel)
set_option maxRecDepth 100000 in
theorem jm_good_max2 : ∀ w ∈ [Cond.static Lib.Math.max.name, Cond.initialized "java/lang/Math", Cond.code Lib.Math.max.name Lib.Math.max.code 2 (some .int)], w ∈ jm_G := jm_pos [410, 10, 411] (by decide +kernel) (by decide +kernel)
theorem jm_good_max0 : ∀ k ∈ jm_maxT, k ≠ 0 := by decide +kernel
set_option maxRecDepth 100000 in
theorem jm_good_min1 : ∀ w ∈ jm_minT.map (fun k => Cond.methodLink (jm_own (k / 1000)) (k % 1000) Lib.Math.min.name), w ∈ jm_G := jm_pos [386] (by decide +kernel) (by decide +kernel)
set_option maxRecDepth 100000 in
theorem jm_good_min2 : ∀ w ∈ [Cond.static Lib.Math.min.name, Cond.initialized "java/lang/Math", Cond.code Lib.Math.min.name Lib.Math.min.code 2 (some .int)], w ∈ jm_G := jm_pos [387, 10, 388] (by decide +kernel) (by decide +kernel)
theorem jm_good_min0 : ∀ k ∈ jm_minT, k ≠ 0 := by decide +kernel
def jm_mok (e : Nat × jm_Md × Nat × Nat) : Prop := e.1 ≠ 0 ∧ Cond.code e.2.1.1 e.2.1.2.1 e.2.1.2.2.1 e.2.1.2.2.2.1 ∈ jm_G ∧ Cond.initialized e.2.1.1.cls ∈ jm_G ∧ e.2.1.1.cls = jm_own e.2.1.2.2.2.2 ∧ plainName e.2.1.1.cls = true ∧ (e.2.1.1.cls ≠ "java/lang/invoke/MethodHandle" ∧ e.2.1.1.cls ≠ "java/lang/invoke/VarHandle" ∧ (parseMethodDescriptor e.2.1.1.desc).map (fun d => d.parameters.length) = some e.2.2.1) ∧ e.2.1.2.2.1 ≤ 40 ∧ e.2.2.2 ≤ 4 ∧
  (e.2.2.2 ≤ 2 → Cond.methodLink (jm_own (e.1 / 1000)) (e.1 % 1000) e.2.1.1 ∈ jm_G) ∧ (e.2.2.2 = 1 ∨ e.2.2.2 = 3 → Cond.static e.2.1.1 ∈ jm_G) ∧ (e.2.2.2 = 0 ∨ e.2.2.2 = 2 ∨ e.2.2.2 = 4 → Cond.instanceMethod e.2.1.1 ∈ jm_G ∧ e.2.1.2.2.2.2 < 8 ∧ (jm_tab e.2.1.2.2.2.2).1 = e.2.1.1.cls) ∧ (e.2.2.2 = 0 → Cond.selects e.2.1.1.cls e.2.1.1 e.2.1.1 ∈ jm_G) ∧ (e.2.2.2 = 2 ∨ e.2.2.2 = 4 → e.2.1.1.name = "<init>" ∧ e.2.1.2.2.2.1 = none)
theorem wd_0 : Cond.code yX2_init cX2_init 1 none ∈ jm_G := jm_memG (List.mem_of_getElem? (i := 75) (by decide +kernel)) (by decide +kernel)
theorem wd_1 : Cond.initialized RX2 ∈ jm_G := jm_memG (List.mem_of_getElem? (i := 5) (by decide +kernel)) (by decide +kernel)
theorem wd_2 : Cond.instanceMethod yX2_init ∈ jm_G := jm_memG (List.mem_of_getElem? (i := 74) (by decide +kernel)) (by decide +kernel)
theorem jm_m_24 : jm_mok (24, md_X2_init, 0, 4) := ⟨by decide, wd_0, wd_1, rfl, by decide +kernel, ⟨by decide, by decide, by decide +kernel⟩, by decide, by decide, fun h => absurd h (by decide), fun h => absurd h (by decide), fun _ => ⟨wd_2, by decide, rfl⟩, fun h => absurd h (by decide), fun _ => ⟨rfl, rfl⟩⟩
theorem wd_3 : Cond.code yX2_become cX2_become 2 none ∈ jm_G := jm_memG (List.mem_of_getElem? (i := 354) (by decide +kernel)) (by decide +kernel)
theorem wd_4 : Cond.methodLink RX0 25 yX2_become ∈ jm_G := jm_memG (List.mem_of_getElem? (i := 373) (by decide +kernel)) (by decide +kernel)
theorem wd_5 : Cond.instanceMethod yX2_become ∈ jm_G := jm_memG (List.mem_of_getElem? (i := 352) (by decide +kernel)) (by decide +kernel)
theorem wd_6 : Cond.selects RX2 yX2_become yX2_become ∈ jm_G := jm_memG (List.mem_of_getElem? (i := 353) (by decide +kernel)) (by decide +kernel)
theorem jm_m_25 : jm_mok (25, md_X2_become, 1, 0) := ⟨by decide, wd_3, wd_1, rfl, by decide +kernel, ⟨by decide, by decide, by decide +kernel⟩, by decide, by decide, fun _ => wd_4, fun h => absurd h (by decide), fun _ => ⟨wd_5, by decide, rfl⟩, fun _ => wd_6, fun h => absurd h (by decide)⟩
theorem wd_7 : Cond.code yX1_markOf cX1_markOf 3 (some .int) ∈ jm_G := jm_memG (List.mem_of_getElem? (i := 668) (by decide +kernel)) (by decide +kernel)
theorem wd_8 : Cond.initialized RX1 ∈ jm_G := jm_memG (List.mem_of_getElem? (i := 7) (by decide +kernel)) (by decide +kernel)
theorem wd_9 : Cond.methodLink RX1 24 yX1_markOf ∈ jm_G := jm_memG (List.mem_of_getElem? (i := 665) (by decide +kernel)) (by decide +kernel)
theorem wd_10 : Cond.instanceMethod yX1_markOf ∈ jm_G := jm_memG (List.mem_of_getElem? (i := 667) (by decide +kernel)) (by decide +kernel)
theorem wd_11 : Cond.selects RX1 yX1_markOf yX1_markOf ∈ jm_G := jm_memP (List.mem_of_getElem? (i := 14) (by decide +kernel)) (by decide +kernel)
theorem jm_m_1024 : jm_mok (1024, md_X1_markOf, 2, 0) := ⟨by decide, wd_7, wd_8, rfl, by decide +kernel, ⟨by decide, by decide, by decide +kernel⟩, by decide, by decide, fun _ => wd_9, fun h => absurd h (by decide), fun _ => ⟨wd_10, by decide, rfl⟩, fun _ => wd_11, fun h => absurd h (by decide)⟩
theorem wd_12 : Cond.code yX1_sizeOf cX1_sizeOf 3 (some .int) ∈ jm_G := jm_memG (List.mem_of_getElem? (i := 682) (by decide +kernel)) (by decide +kernel)
theorem wd_13 : Cond.methodLink RX1 28 yX1_sizeOf ∈ jm_G := jm_memG (List.mem_of_getElem? (i := 679) (by decide +kernel)) (by decide +kernel)
theorem wd_14 : Cond.instanceMethod yX1_sizeOf ∈ jm_G := jm_memG (List.mem_of_getElem? (i := 681) (by decide +kernel)) (by decide +kernel)
theorem wd_15 : Cond.selects RX1 yX1_sizeOf yX1_sizeOf ∈ jm_G := jm_memP (List.mem_of_getElem? (i := 17) (by decide +kernel)) (by decide +kernel)
theorem jm_m_1028 : jm_mok (1028, md_X1_sizeOf, 2, 0) := ⟨by decide, wd_12, wd_8, rfl, by decide +kernel, ⟨by decide, by decide, by decide +kernel⟩, by decide, by decide, fun _ => wd_13, fun h => absurd h (by decide), fun _ => ⟨wd_14, by decide, rfl⟩, fun _ => wd_15, fun h => absurd h (by decide)⟩
theorem wd_16 : Cond.code yX1_run cX1_run 5 (some .int) ∈ jm_G := jm_memG (List.mem_of_getElem? (i := 674) (by decide +kernel)) (by decide +kernel)
theorem wd_17 : Cond.methodLink RX1 39 yX1_run ∈ jm_G := jm_memG (List.mem_of_getElem? (i := 671) (by decide +kernel)) (by decide +kernel)
theorem wd_18 : Cond.instanceMethod yX1_run ∈ jm_G := jm_memG (List.mem_of_getElem? (i := 673) (by decide +kernel)) (by decide +kernel)
theorem wd_19 : Cond.selects RX1 yX1_run yX1_run ∈ jm_G := jm_memP (List.mem_of_getElem? (i := 15) (by decide +kernel)) (by decide +kernel)
theorem jm_m_1039 : jm_mok (1039, md_X1_run, 3, 0) := ⟨by decide, wd_16, wd_8, rfl, by decide +kernel, ⟨by decide, by decide, by decide +kernel⟩, by decide, by decide, fun _ => wd_17, fun h => absurd h (by decide), fun _ => ⟨wd_18, by decide, rfl⟩, fun _ => wd_19, fun h => absurd h (by decide)⟩
theorem wd_20 : Cond.code yX1_leave cX1_leave 2 none ∈ jm_G := jm_memG (List.mem_of_getElem? (i := 678) (by decide +kernel)) (by decide +kernel)
theorem wd_21 : Cond.methodLink RX1 46 yX1_leave ∈ jm_G := jm_memG (List.mem_of_getElem? (i := 675) (by decide +kernel)) (by decide +kernel)
theorem wd_22 : Cond.instanceMethod yX1_leave ∈ jm_G := jm_memG (List.mem_of_getElem? (i := 677) (by decide +kernel)) (by decide +kernel)
theorem wd_23 : Cond.selects RX1 yX1_leave yX1_leave ∈ jm_G := jm_memP (List.mem_of_getElem? (i := 16) (by decide +kernel)) (by decide +kernel)
theorem jm_m_1046 : jm_mok (1046, md_X1_leave, 1, 0) := ⟨by decide, wd_20, wd_8, rfl, by decide +kernel, ⟨by decide, by decide, by decide +kernel⟩, by decide, by decide, fun _ => wd_21, fun h => absurd h (by decide), fun _ => ⟨wd_22, by decide, rfl⟩, fun _ => wd_23, fun h => absurd h (by decide)⟩
theorem wd_24 : Cond.code yX2_waterBehind cX2_waterBehind 3 (some .int) ∈ jm_G := jm_memG (List.mem_of_getElem? (i := 400) (by decide +kernel)) (by decide +kernel)
theorem wd_25 : Cond.methodLink RX2 61 yX2_waterBehind ∈ jm_G := jm_memG (List.mem_of_getElem? (i := 397) (by decide +kernel)) (by decide +kernel)
theorem wd_26 : Cond.instanceMethod yX2_waterBehind ∈ jm_G := jm_memG (List.mem_of_getElem? (i := 398) (by decide +kernel)) (by decide +kernel)
theorem wd_27 : Cond.selects RX2 yX2_waterBehind yX2_waterBehind ∈ jm_G := jm_memG (List.mem_of_getElem? (i := 399) (by decide +kernel)) (by decide +kernel)
theorem jm_m_2061 : jm_mok (2061, md_X2_waterBehind, 1, 0) := ⟨by decide, wd_24, wd_1, rfl, by decide +kernel, ⟨by decide, by decide, by decide +kernel⟩, by decide, by decide, fun _ => wd_25, fun h => absurd h (by decide), fun _ => ⟨wd_26, by decide, rfl⟩, fun _ => wd_27, fun h => absurd h (by decide)⟩
theorem wd_28 : Cond.code yX2_showsBehind cX2_showsBehind 4 (some .boolean) ∈ jm_G := jm_memG (List.mem_of_getElem? (i := 396) (by decide +kernel)) (by decide +kernel)
theorem wd_29 : Cond.methodLink RX2 71 yX2_showsBehind ∈ jm_G := jm_memG (List.mem_of_getElem? (i := 393) (by decide +kernel)) (by decide +kernel)
theorem wd_30 : Cond.instanceMethod yX2_showsBehind ∈ jm_G := jm_memG (List.mem_of_getElem? (i := 394) (by decide +kernel)) (by decide +kernel)
theorem wd_31 : Cond.selects RX2 yX2_showsBehind yX2_showsBehind ∈ jm_G := jm_memG (List.mem_of_getElem? (i := 395) (by decide +kernel)) (by decide +kernel)
theorem jm_m_2071 : jm_mok (2071, md_X2_showsBehind, 1, 0) := ⟨by decide, wd_28, wd_1, rfl, by decide +kernel, ⟨by decide, by decide, by decide +kernel⟩, by decide, by decide, fun _ => wd_29, fun h => absurd h (by decide), fun _ => ⟨wd_30, by decide, rfl⟩, fun _ => wd_31, fun h => absurd h (by decide)⟩
theorem wd_32 : Cond.code yX2_isSent cX2_isSent 2 (some .boolean) ∈ jm_G := jm_memG (List.mem_of_getElem? (i := 404) (by decide +kernel)) (by decide +kernel)
theorem wd_33 : Cond.methodLink RX2 75 yX2_isSent ∈ jm_G := jm_memG (List.mem_of_getElem? (i := 401) (by decide +kernel)) (by decide +kernel)
theorem wd_34 : Cond.instanceMethod yX2_isSent ∈ jm_G := jm_memG (List.mem_of_getElem? (i := 402) (by decide +kernel)) (by decide +kernel)
theorem wd_35 : Cond.selects RX2 yX2_isSent yX2_isSent ∈ jm_G := jm_memG (List.mem_of_getElem? (i := 403) (by decide +kernel)) (by decide +kernel)
theorem jm_m_2075 : jm_mok (2075, md_X2_isSent, 1, 0) := ⟨by decide, wd_32, wd_1, rfl, by decide +kernel, ⟨by decide, by decide, by decide +kernel⟩, by decide, by decide, fun _ => wd_33, fun h => absurd h (by decide), fun _ => ⟨wd_34, by decide, rfl⟩, fun _ => wd_35, fun h => absurd h (by decide)⟩
theorem wd_36 : Cond.code yX2_wayOf cX2_wayOf 5 (some .int) ∈ jm_G := jm_memG (List.mem_of_getElem? (i := 408) (by decide +kernel)) (by decide +kernel)
theorem wd_37 : Cond.methodLink RX2 78 yX2_wayOf ∈ jm_G := jm_memG (List.mem_of_getElem? (i := 405) (by decide +kernel)) (by decide +kernel)
theorem wd_38 : Cond.instanceMethod yX2_wayOf ∈ jm_G := jm_memG (List.mem_of_getElem? (i := 406) (by decide +kernel)) (by decide +kernel)
theorem wd_39 : Cond.selects RX2 yX2_wayOf yX2_wayOf ∈ jm_G := jm_memG (List.mem_of_getElem? (i := 407) (by decide +kernel)) (by decide +kernel)
theorem jm_m_2078 : jm_mok (2078, md_X2_wayOf, 2, 0) := ⟨by decide, wd_36, wd_1, rfl, by decide +kernel, ⟨by decide, by decide, by decide +kernel⟩, by decide, by decide, fun _ => wd_37, fun h => absurd h (by decide), fun _ => ⟨wd_38, by decide, rfl⟩, fun _ => wd_39, fun h => absurd h (by decide)⟩
theorem wd_40 : Cond.code yX2_nextOwner cX2_nextOwner 2 (some .int) ∈ jm_G := jm_memG (List.mem_of_getElem? (i := 415) (by decide +kernel)) (by decide +kernel)
theorem wd_41 : Cond.methodLink RX2 82 yX2_nextOwner ∈ jm_G := jm_memG (List.mem_of_getElem? (i := 412) (by decide +kernel)) (by decide +kernel)
theorem wd_42 : Cond.instanceMethod yX2_nextOwner ∈ jm_G := jm_memG (List.mem_of_getElem? (i := 414) (by decide +kernel)) (by decide +kernel)
theorem wd_43 : Cond.selects RX2 yX2_nextOwner yX2_nextOwner ∈ jm_G := jm_memP (List.mem_of_getElem? (i := 9) (by decide +kernel)) (by decide +kernel)
theorem jm_m_2082 : jm_mok (2082, md_X2_nextOwner, 0, 0) := ⟨by decide, wd_40, wd_1, rfl, by decide +kernel, ⟨by decide, by decide, by decide +kernel⟩, by decide, by decide, fun _ => wd_41, fun h => absurd h (by decide), fun _ => ⟨wd_42, by decide, rfl⟩, fun _ => wd_43, fun h => absurd h (by decide)⟩
theorem wd_44 : Cond.code yX2_hasBoat cX2_hasBoat 2 (some .boolean) ∈ jm_G := jm_memG (List.mem_of_getElem? (i := 419) (by decide +kernel)) (by decide +kernel)
theorem wd_45 : Cond.methodLink RX2 86 yX2_hasBoat ∈ jm_G := jm_memG (List.mem_of_getElem? (i := 416) (by decide +kernel)) (by decide +kernel)
theorem wd_46 : Cond.instanceMethod yX2_hasBoat ∈ jm_G := jm_memG (List.mem_of_getElem? (i := 417) (by decide +kernel)) (by decide +kernel)
theorem wd_47 : Cond.selects RX2 yX2_hasBoat yX2_hasBoat ∈ jm_G := jm_memG (List.mem_of_getElem? (i := 418) (by decide +kernel)) (by decide +kernel)
theorem jm_m_2086 : jm_mok (2086, md_X2_hasBoat, 1, 0) := ⟨by decide, wd_44, wd_1, rfl, by decide +kernel, ⟨by decide, by decide, by decide +kernel⟩, by decide, by decide, fun _ => wd_45, fun h => absurd h (by decide), fun _ => ⟨wd_46, by decide, rfl⟩, fun _ => wd_47, fun h => absurd h (by decide)⟩
theorem wd_48 : Cond.code yX2_pass cX2_pass 3 none ∈ jm_G := jm_memG (List.mem_of_getElem? (i := 392) (by decide +kernel)) (by decide +kernel)
theorem wd_49 : Cond.methodLink RX2 89 yX2_pass ∈ jm_G := jm_memG (List.mem_of_getElem? (i := 481) (by decide +kernel)) (by decide +kernel)
theorem wd_50 : Cond.instanceMethod yX2_pass ∈ jm_G := jm_memG (List.mem_of_getElem? (i := 390) (by decide +kernel)) (by decide +kernel)
theorem wd_51 : Cond.selects RX2 yX2_pass yX2_pass ∈ jm_G := jm_memG (List.mem_of_getElem? (i := 391) (by decide +kernel)) (by decide +kernel)
theorem jm_m_2089 : jm_mok (2089, md_X2_pass, 0, 0) := ⟨by decide, wd_48, wd_1, rfl, by decide +kernel, ⟨by decide, by decide, by decide +kernel⟩, by decide, by decide, fun _ => wd_49, fun h => absurd h (by decide), fun _ => ⟨wd_50, by decide, rfl⟩, fun _ => wd_51, fun h => absurd h (by decide)⟩
theorem wd_52 : Cond.code yX6_within cX6_within 3 (some .boolean) ∈ jm_G := jm_memG (List.mem_of_getElem? (i := 225) (by decide +kernel)) (by decide +kernel)
theorem wd_53 : Cond.initialized RX6 ∈ jm_G := jm_memG (List.mem_of_getElem? (i := 1) (by decide +kernel)) (by decide +kernel)
theorem wd_54 : Cond.static yX6_within ∈ jm_G := jm_memG (List.mem_of_getElem? (i := 224) (by decide +kernel)) (by decide +kernel)
theorem jm_m_3023 : jm_mok (3023, md_X6_within, 3, 3) := ⟨by decide, wd_52, wd_53, rfl, by decide +kernel, ⟨by decide, by decide, by decide +kernel⟩, by decide, by decide, fun h => absurd h (by decide), fun _ => wd_54, fun h => absurd h (by decide), fun h => absurd h (by decide), fun h => absurd h (by decide)⟩
theorem wd_55 : Cond.code yX3_isMissing cX3_isMissing 2 (some .boolean) ∈ jm_G := jm_memG (List.mem_of_getElem? (i := 248) (by decide +kernel)) (by decide +kernel)
theorem wd_56 : Cond.initialized RX3 ∈ jm_G := jm_memG (List.mem_of_getElem? (i := 2) (by decide +kernel)) (by decide +kernel)
theorem wd_57 : Cond.methodLink RX3 33 yX3_isMissing ∈ jm_G := jm_memG (List.mem_of_getElem? (i := 697) (by decide +kernel)) (by decide +kernel)
theorem wd_58 : Cond.instanceMethod yX3_isMissing ∈ jm_G := jm_memG (List.mem_of_getElem? (i := 246) (by decide +kernel)) (by decide +kernel)
theorem wd_59 : Cond.selects RX3 yX3_isMissing yX3_isMissing ∈ jm_G := jm_memG (List.mem_of_getElem? (i := 247) (by decide +kernel)) (by decide +kernel)
theorem jm_m_3033 : jm_mok (3033, md_X3_isMissing, 1, 0) := ⟨by decide, wd_55, wd_56, rfl, by decide +kernel, ⟨by decide, by decide, by decide +kernel⟩, by decide, by decide, fun _ => wd_57, fun h => absurd h (by decide), fun _ => ⟨wd_58, by decide, rfl⟩, fun _ => wd_59, fun h => absurd h (by decide)⟩
theorem wd_60 : Cond.code yX6_bit cX6_bit 1 (some .int) ∈ jm_G := jm_memG (List.mem_of_getElem? (i := 452) (by decide +kernel)) (by decide +kernel)
theorem wd_61 : Cond.static yX6_bit ∈ jm_G := jm_memG (List.mem_of_getElem? (i := 451) (by decide +kernel)) (by decide +kernel)
theorem jm_m_3037 : jm_mok (3037, md_X6_bit, 1, 3) := ⟨by decide, wd_60, wd_53, rfl, by decide +kernel, ⟨by decide, by decide, by decide +kernel⟩, by decide, by decide, fun h => absurd h (by decide), fun _ => wd_61, fun h => absurd h (by decide), fun h => absurd h (by decide), fun h => absurd h (by decide)⟩
theorem jm_m_4011 : jm_mok (4011, md_X2_init, 0, 4) := ⟨by decide, wd_0, wd_1, rfl, by decide +kernel, ⟨by decide, by decide, by decide +kernel⟩, by decide, by decide, fun h => absurd h (by decide), fun h => absurd h (by decide), fun _ => ⟨wd_2, by decide, rfl⟩, fun h => absurd h (by decide), fun _ => ⟨rfl, rfl⟩⟩
theorem wd_62 : Cond.code yX2_clear cX2_clear 1 none ∈ jm_G := jm_memG (List.mem_of_getElem? (i := 305) (by decide +kernel)) (by decide +kernel)
theorem wd_63 : Cond.methodLink RX4 21 yX2_clear ∈ jm_G := jm_memG (List.mem_of_getElem? (i := 302) (by decide +kernel)) (by decide +kernel)
theorem wd_64 : Cond.instanceMethod yX2_clear ∈ jm_G := jm_memG (List.mem_of_getElem? (i := 303) (by decide +kernel)) (by decide +kernel)
theorem wd_65 : Cond.selects RX2 yX2_clear yX2_clear ∈ jm_G := jm_memG (List.mem_of_getElem? (i := 304) (by decide +kernel)) (by decide +kernel)
theorem jm_m_4021 : jm_mok (4021, md_X2_clear, 0, 0) := ⟨by decide, wd_62, wd_1, rfl, by decide +kernel, ⟨by decide, by decide, by decide +kernel⟩, by decide, by decide, fun _ => wd_63, fun h => absurd h (by decide), fun _ => ⟨wd_64, by decide, rfl⟩, fun _ => wd_65, fun h => absurd h (by decide)⟩
theorem wd_66 : Cond.methodLink RX4 24 yX2_become ∈ jm_G := jm_memG (List.mem_of_getElem? (i := 476) (by decide +kernel)) (by decide +kernel)
theorem jm_m_4024 : jm_mok (4024, md_X2_become, 1, 0) := ⟨by decide, wd_3, wd_1, rfl, by decide +kernel, ⟨by decide, by decide, by decide +kernel⟩, by decide, by decide, fun _ => wd_66, fun h => absurd h (by decide), fun _ => ⟨wd_5, by decide, rfl⟩, fun _ => wd_6, fun h => absurd h (by decide)⟩
theorem wd_67 : Cond.code yX2_passAll cX2_passAll 3 none ∈ jm_G := jm_memG (List.mem_of_getElem? (i := 480) (by decide +kernel)) (by decide +kernel)
theorem wd_68 : Cond.methodLink RX4 28 yX2_passAll ∈ jm_G := jm_memG (List.mem_of_getElem? (i := 477) (by decide +kernel)) (by decide +kernel)
theorem wd_69 : Cond.instanceMethod yX2_passAll ∈ jm_G := jm_memG (List.mem_of_getElem? (i := 478) (by decide +kernel)) (by decide +kernel)
theorem wd_70 : Cond.selects RX2 yX2_passAll yX2_passAll ∈ jm_G := jm_memG (List.mem_of_getElem? (i := 479) (by decide +kernel)) (by decide +kernel)
theorem jm_m_4028 : jm_mok (4028, md_X2_passAll, 1, 0) := ⟨by decide, wd_67, wd_1, rfl, by decide +kernel, ⟨by decide, by decide, by decide +kernel⟩, by decide, by decide, fun _ => wd_68, fun h => absurd h (by decide), fun _ => ⟨wd_69, by decide, rfl⟩, fun _ => wd_70, fun h => absurd h (by decide)⟩
theorem wd_71 : Cond.methodLink RX4 39 yX2_pass ∈ jm_G := jm_memG (List.mem_of_getElem? (i := 514) (by decide +kernel)) (by decide +kernel)
theorem jm_m_4039 : jm_mok (4039, md_X2_pass, 0, 0) := ⟨by decide, wd_48, wd_1, rfl, by decide +kernel, ⟨by decide, by decide, by decide +kernel⟩, by decide, by decide, fun _ => wd_71, fun h => absurd h (by decide), fun _ => ⟨wd_50, by decide, rfl⟩, fun _ => wd_51, fun h => absurd h (by decide)⟩
theorem wd_72 : Cond.code yX4_isFewer cX4_isFewer 2 (some .boolean) ∈ jm_G := jm_memG (List.mem_of_getElem? (i := 541) (by decide +kernel)) (by decide +kernel)
theorem wd_73 : Cond.initialized RX4 ∈ jm_G := jm_memG (List.mem_of_getElem? (i := 6) (by decide +kernel)) (by decide +kernel)
theorem wd_74 : Cond.methodLink RX4 48 yX4_isFewer ∈ jm_G := jm_memG (List.mem_of_getElem? (i := 539) (by decide +kernel)) (by decide +kernel)
theorem wd_75 : Cond.static yX4_isFewer ∈ jm_G := jm_memG (List.mem_of_getElem? (i := 540) (by decide +kernel)) (by decide +kernel)
theorem jm_m_4048 : jm_mok (4048, md_X4_isFewer, 2, 1) := ⟨by decide, wd_72, wd_73, rfl, by decide +kernel, ⟨by decide, by decide, by decide +kernel⟩, by decide, by decide, fun _ => wd_74, fun _ => wd_75, fun h => absurd h (by decide), fun h => absurd h (by decide), fun h => absurd h (by decide)⟩
theorem wd_76 : Cond.code yX4_ownerBySent cX4_ownerBySent 3 (some .int) ∈ jm_G := jm_memG (List.mem_of_getElem? (i := 551) (by decide +kernel)) (by decide +kernel)
theorem wd_77 : Cond.methodLink RX4 52 yX4_ownerBySent ∈ jm_G := jm_memG (List.mem_of_getElem? (i := 548) (by decide +kernel)) (by decide +kernel)
theorem wd_78 : Cond.instanceMethod yX4_ownerBySent ∈ jm_G := jm_memG (List.mem_of_getElem? (i := 550) (by decide +kernel)) (by decide +kernel)
theorem wd_79 : Cond.selects RX4 yX4_ownerBySent yX4_ownerBySent ∈ jm_G := jm_memP (List.mem_of_getElem? (i := 10) (by decide +kernel)) (by decide +kernel)
theorem jm_m_4052 : jm_mok (4052, md_X4_ownerBySent, 2, 0) := ⟨by decide, wd_76, wd_73, rfl, by decide +kernel, ⟨by decide, by decide, by decide +kernel⟩, by decide, by decide, fun _ => wd_77, fun h => absurd h (by decide), fun _ => ⟨wd_78, by decide, rfl⟩, fun _ => wd_79, fun h => absurd h (by decide)⟩
theorem wd_80 : Cond.code yJ6_bitCount_0f7a4 cJ6_bitCount_0f7a4 1 (some .int) ∈ jm_G := jm_memG (List.mem_of_getElem? (i := 544) (by decide +kernel)) (by decide +kernel)
theorem wd_81 : Cond.initialized RJ6 ∈ jm_G := jm_memG (List.mem_of_getElem? (i := 11) (by decide +kernel)) (by decide +kernel)
theorem wd_82 : Cond.methodLink RX4 56 yJ6_bitCount_0f7a4 ∈ jm_G := jm_memG (List.mem_of_getElem? (i := 542) (by decide +kernel)) (by decide +kernel)
theorem wd_83 : Cond.static yJ6_bitCount_0f7a4 ∈ jm_G := jm_memG (List.mem_of_getElem? (i := 543) (by decide +kernel)) (by decide +kernel)
theorem jm_m_4056 : jm_mok (4056, md_J6_bitCount_0f7a4, 1, 1) := ⟨by decide, wd_80, wd_81, rfl, by decide +kernel, ⟨by decide, by decide, by decide +kernel⟩, by decide, by decide, fun _ => wd_82, fun _ => wd_83, fun h => absurd h (by decide), fun h => absurd h (by decide), fun h => absurd h (by decide)⟩
theorem wd_84 : Cond.methodLink RX4 66 yX2_showsBehind ∈ jm_G := jm_memG (List.mem_of_getElem? (i := 572) (by decide +kernel)) (by decide +kernel)
theorem jm_m_4066 : jm_mok (4066, md_X2_showsBehind, 1, 0) := ⟨by decide, wd_28, wd_1, rfl, by decide +kernel, ⟨by decide, by decide, by decide +kernel⟩, by decide, by decide, fun _ => wd_84, fun h => absurd h (by decide), fun _ => ⟨wd_30, by decide, rfl⟩, fun _ => wd_31, fun h => absurd h (by decide)⟩
theorem wd_85 : Cond.code yX4_goesAsTold cX4_goesAsTold 5 (some .boolean) ∈ jm_G := jm_memG (List.mem_of_getElem? (i := 584) (by decide +kernel)) (by decide +kernel)
theorem wd_86 : Cond.methodLink RX4 76 yX4_goesAsTold ∈ jm_G := jm_memG (List.mem_of_getElem? (i := 581) (by decide +kernel)) (by decide +kernel)
theorem wd_87 : Cond.instanceMethod yX4_goesAsTold ∈ jm_G := jm_memG (List.mem_of_getElem? (i := 583) (by decide +kernel)) (by decide +kernel)
theorem wd_88 : Cond.selects RX4 yX4_goesAsTold yX4_goesAsTold ∈ jm_G := jm_memP (List.mem_of_getElem? (i := 11) (by decide +kernel)) (by decide +kernel)
theorem jm_m_4076 : jm_mok (4076, md_X4_goesAsTold, 3, 0) := ⟨by decide, wd_85, wd_73, rfl, by decide +kernel, ⟨by decide, by decide, by decide +kernel⟩, by decide, by decide, fun _ => wd_86, fun h => absurd h (by decide), fun _ => ⟨wd_87, by decide, rfl⟩, fun _ => wd_88, fun h => absurd h (by decide)⟩
theorem wd_89 : Cond.methodLink RX4 80 yX2_isSent ∈ jm_G := jm_memG (List.mem_of_getElem? (i := 593) (by decide +kernel)) (by decide +kernel)
theorem jm_m_4080 : jm_mok (4080, md_X2_isSent, 1, 0) := ⟨by decide, wd_32, wd_1, rfl, by decide +kernel, ⟨by decide, by decide, by decide +kernel⟩, by decide, by decide, fun _ => wd_89, fun h => absurd h (by decide), fun _ => ⟨wd_34, by decide, rfl⟩, fun _ => wd_35, fun h => absurd h (by decide)⟩
theorem wd_90 : Cond.code yX4_weightOf cX4_weightOf 6 (some .long) ∈ jm_G := jm_memG (List.mem_of_getElem? (i := 610) (by decide +kernel)) (by decide +kernel)
theorem wd_91 : Cond.methodLink RX4 83 yX4_weightOf ∈ jm_G := jm_memG (List.mem_of_getElem? (i := 607) (by decide +kernel)) (by decide +kernel)
theorem wd_92 : Cond.instanceMethod yX4_weightOf ∈ jm_G := jm_memG (List.mem_of_getElem? (i := 609) (by decide +kernel)) (by decide +kernel)
theorem wd_93 : Cond.selects RX4 yX4_weightOf yX4_weightOf ∈ jm_G := jm_memP (List.mem_of_getElem? (i := 12) (by decide +kernel)) (by decide +kernel)
theorem jm_m_4083 : jm_mok (4083, md_X4_weightOf, 2, 0) := ⟨by decide, wd_90, wd_73, rfl, by decide +kernel, ⟨by decide, by decide, by decide +kernel⟩, by decide, by decide, fun _ => wd_91, fun h => absurd h (by decide), fun _ => ⟨wd_92, by decide, rfl⟩, fun _ => wd_93, fun h => absurd h (by decide)⟩
theorem wd_94 : Cond.code yX4_drawBy cX4_drawBy 3 none ∈ jm_G := jm_memG (List.mem_of_getElem? (i := 633) (by decide +kernel)) (by decide +kernel)
theorem wd_95 : Cond.methodLink RX4 93 yX4_drawBy ∈ jm_G := jm_memG (List.mem_of_getElem? (i := 630) (by decide +kernel)) (by decide +kernel)
theorem wd_96 : Cond.instanceMethod yX4_drawBy ∈ jm_G := jm_memG (List.mem_of_getElem? (i := 632) (by decide +kernel)) (by decide +kernel)
theorem wd_97 : Cond.selects RX4 yX4_drawBy yX4_drawBy ∈ jm_G := jm_memP (List.mem_of_getElem? (i := 13) (by decide +kernel)) (by decide +kernel)
theorem jm_m_4093 : jm_mok (4093, md_X4_drawBy, 1, 0) := ⟨by decide, wd_94, wd_73, rfl, by decide +kernel, ⟨by decide, by decide, by decide +kernel⟩, by decide, by decide, fun _ => wd_95, fun h => absurd h (by decide), fun _ => ⟨wd_96, by decide, rfl⟩, fun _ => wd_97, fun h => absurd h (by decide)⟩
theorem wd_98 : Cond.code yX5_isFull cX5_isFull 1 (some .boolean) ∈ jm_G := jm_memG (List.mem_of_getElem? (i := 287) (by decide +kernel)) (by decide +kernel)
theorem wd_99 : Cond.initialized RX5 ∈ jm_G := jm_memG (List.mem_of_getElem? (i := 3) (by decide +kernel)) (by decide +kernel)
theorem wd_100 : Cond.methodLink RX5 28 yX5_isFull ∈ jm_G := jm_memG (List.mem_of_getElem? (i := 293) (by decide +kernel)) (by decide +kernel)
theorem wd_101 : Cond.instanceMethod yX5_isFull ∈ jm_G := jm_memG (List.mem_of_getElem? (i := 285) (by decide +kernel)) (by decide +kernel)
theorem wd_102 : Cond.selects RX5 yX5_isFull yX5_isFull ∈ jm_G := jm_memG (List.mem_of_getElem? (i := 286) (by decide +kernel)) (by decide +kernel)
theorem jm_m_5028 : jm_mok (5028, md_X5_isFull, 0, 0) := ⟨by decide, wd_98, wd_99, rfl, by decide +kernel, ⟨by decide, by decide, by decide +kernel⟩, by decide, by decide, fun _ => wd_100, fun h => absurd h (by decide), fun _ => ⟨wd_101, by decide, rfl⟩, fun _ => wd_102, fun h => absurd h (by decide)⟩
theorem wd_103 : Cond.code yX5_readLaw cX5_readLaw 2 (some .boolean) ∈ jm_G := jm_memG (List.mem_of_getElem? (i := 313) (by decide +kernel)) (by decide +kernel)
theorem wd_104 : Cond.methodLink RX5 32 yX5_readLaw ∈ jm_G := jm_memG (List.mem_of_getElem? (i := 310) (by decide +kernel)) (by decide +kernel)
theorem wd_105 : Cond.instanceMethod yX5_readLaw ∈ jm_G := jm_memG (List.mem_of_getElem? (i := 312) (by decide +kernel)) (by decide +kernel)
theorem wd_106 : Cond.selects RX5 yX5_readLaw yX5_readLaw ∈ jm_G := jm_memP (List.mem_of_getElem? (i := 2) (by decide +kernel)) (by decide +kernel)
theorem jm_m_5032 : jm_mok (5032, md_X5_readLaw, 1, 0) := ⟨by decide, wd_103, wd_99, rfl, by decide +kernel, ⟨by decide, by decide, by decide +kernel⟩, by decide, by decide, fun _ => wd_104, fun h => absurd h (by decide), fun _ => ⟨wd_105, by decide, rfl⟩, fun _ => wd_106, fun h => absurd h (by decide)⟩
theorem wd_107 : Cond.code yX5_readCells cX5_readCells 4 (some .boolean) ∈ jm_G := jm_memG (List.mem_of_getElem? (i := 334) (by decide +kernel)) (by decide +kernel)
theorem wd_108 : Cond.methodLink RX5 36 yX5_readCells ∈ jm_G := jm_memG (List.mem_of_getElem? (i := 331) (by decide +kernel)) (by decide +kernel)
theorem wd_109 : Cond.instanceMethod yX5_readCells ∈ jm_G := jm_memG (List.mem_of_getElem? (i := 333) (by decide +kernel)) (by decide +kernel)
theorem wd_110 : Cond.selects RX5 yX5_readCells yX5_readCells ∈ jm_G := jm_memP (List.mem_of_getElem? (i := 7) (by decide +kernel)) (by decide +kernel)
theorem jm_m_5036 : jm_mok (5036, md_X5_readCells, 1, 0) := ⟨by decide, wd_107, wd_99, rfl, by decide +kernel, ⟨by decide, by decide, by decide +kernel⟩, by decide, by decide, fun _ => wd_108, fun h => absurd h (by decide), fun _ => ⟨wd_109, by decide, rfl⟩, fun _ => wd_110, fun h => absurd h (by decide)⟩
theorem wd_111 : Cond.code yX5_readBoats cX5_readBoats 6 (some .boolean) ∈ jm_G := jm_memG (List.mem_of_getElem? (i := 342) (by decide +kernel)) (by decide +kernel)
theorem wd_112 : Cond.methodLink RX5 39 yX5_readBoats ∈ jm_G := jm_memG (List.mem_of_getElem? (i := 339) (by decide +kernel)) (by decide +kernel)
theorem wd_113 : Cond.instanceMethod yX5_readBoats ∈ jm_G := jm_memG (List.mem_of_getElem? (i := 341) (by decide +kernel)) (by decide +kernel)
theorem wd_114 : Cond.selects RX5 yX5_readBoats yX5_readBoats ∈ jm_G := jm_memP (List.mem_of_getElem? (i := 8) (by decide +kernel)) (by decide +kernel)
theorem jm_m_5039 : jm_mok (5039, md_X5_readBoats, 1, 0) := ⟨by decide, wd_111, wd_99, rfl, by decide +kernel, ⟨by decide, by decide, by decide +kernel⟩, by decide, by decide, fun _ => wd_112, fun h => absurd h (by decide), fun _ => ⟨wd_113, by decide, rfl⟩, fun _ => wd_114, fun h => absurd h (by decide)⟩
theorem wd_115 : Cond.code yX5_take cX5_take 2 (some .boolean) ∈ jm_G := jm_memG (List.mem_of_getElem? (i := 317) (by decide +kernel)) (by decide +kernel)
theorem wd_116 : Cond.methodLink RX5 42 yX5_take ∈ jm_G := jm_memG (List.mem_of_getElem? (i := 314) (by decide +kernel)) (by decide +kernel)
theorem wd_117 : Cond.instanceMethod yX5_take ∈ jm_G := jm_memG (List.mem_of_getElem? (i := 316) (by decide +kernel)) (by decide +kernel)
theorem wd_118 : Cond.selects RX5 yX5_take yX5_take ∈ jm_G := jm_memP (List.mem_of_getElem? (i := 3) (by decide +kernel)) (by decide +kernel)
theorem jm_m_5042 : jm_mok (5042, md_X5_take, 1, 0) := ⟨by decide, wd_115, wd_99, rfl, by decide +kernel, ⟨by decide, by decide, by decide +kernel⟩, by decide, by decide, fun _ => wd_116, fun h => absurd h (by decide), fun _ => ⟨wd_117, by decide, rfl⟩, fun _ => wd_118, fun h => absurd h (by decide)⟩
theorem wd_119 : Cond.code yX5_number cX5_number 6 (some .int) ∈ jm_G := jm_memG (List.mem_of_getElem? (i := 329) (by decide +kernel)) (by decide +kernel)
theorem wd_120 : Cond.methodLink RX5 46 yX5_number ∈ jm_G := jm_memG (List.mem_of_getElem? (i := 326) (by decide +kernel)) (by decide +kernel)
theorem wd_121 : Cond.instanceMethod yX5_number ∈ jm_G := jm_memG (List.mem_of_getElem? (i := 328) (by decide +kernel)) (by decide +kernel)
theorem wd_122 : Cond.selects RX5 yX5_number yX5_number ∈ jm_G := jm_memP (List.mem_of_getElem? (i := 6) (by decide +kernel)) (by decide +kernel)
theorem jm_m_5046 : jm_mok (5046, md_X5_number, 2, 0) := ⟨by decide, wd_119, wd_99, rfl, by decide +kernel, ⟨by decide, by decide, by decide +kernel⟩, by decide, by decide, fun _ => wd_120, fun h => absurd h (by decide), fun _ => ⟨wd_121, by decide, rfl⟩, fun _ => wd_122, fun h => absurd h (by decide)⟩
theorem wd_123 : Cond.code yX5_next cX5_next 1 (some .int) ∈ jm_G := jm_memG (List.mem_of_getElem? (i := 321) (by decide +kernel)) (by decide +kernel)
theorem wd_124 : Cond.methodLink RX5 61 yX5_next ∈ jm_G := jm_memG (List.mem_of_getElem? (i := 318) (by decide +kernel)) (by decide +kernel)
theorem wd_125 : Cond.instanceMethod yX5_next ∈ jm_G := jm_memG (List.mem_of_getElem? (i := 320) (by decide +kernel)) (by decide +kernel)
theorem wd_126 : Cond.selects RX5 yX5_next yX5_next ∈ jm_G := jm_memP (List.mem_of_getElem? (i := 4) (by decide +kernel)) (by decide +kernel)
theorem jm_m_5061 : jm_mok (5061, md_X5_next, 0, 0) := ⟨by decide, wd_123, wd_99, rfl, by decide +kernel, ⟨by decide, by decide, by decide +kernel⟩, by decide, by decide, fun _ => wd_124, fun h => absurd h (by decide), fun _ => ⟨wd_125, by decide, rfl⟩, fun _ => wd_126, fun h => absurd h (by decide)⟩
theorem wd_127 : Cond.code yX2_addCell cX2_addCell 2 none ∈ jm_G := jm_memG (List.mem_of_getElem? (i := 338) (by decide +kernel)) (by decide +kernel)
theorem wd_128 : Cond.methodLink RX5 65 yX2_addCell ∈ jm_G := jm_memG (List.mem_of_getElem? (i := 335) (by decide +kernel)) (by decide +kernel)
theorem wd_129 : Cond.instanceMethod yX2_addCell ∈ jm_G := jm_memG (List.mem_of_getElem? (i := 336) (by decide +kernel)) (by decide +kernel)
theorem wd_130 : Cond.selects RX2 yX2_addCell yX2_addCell ∈ jm_G := jm_memG (List.mem_of_getElem? (i := 337) (by decide +kernel)) (by decide +kernel)
theorem jm_m_5065 : jm_mok (5065, md_X2_addCell, 1, 0) := ⟨by decide, wd_127, wd_1, rfl, by decide +kernel, ⟨by decide, by decide, by decide +kernel⟩, by decide, by decide, fun _ => wd_128, fun h => absurd h (by decide), fun _ => ⟨wd_129, by decide, rfl⟩, fun _ => wd_130, fun h => absurd h (by decide)⟩
theorem wd_131 : Cond.code yX5_refuse cX5_refuse 2 (some .boolean) ∈ jm_G := jm_memG (List.mem_of_getElem? (i := 325) (by decide +kernel)) (by decide +kernel)
theorem wd_132 : Cond.methodLink RX5 69 yX5_refuse ∈ jm_G := jm_memG (List.mem_of_getElem? (i := 322) (by decide +kernel)) (by decide +kernel)
theorem wd_133 : Cond.instanceMethod yX5_refuse ∈ jm_G := jm_memG (List.mem_of_getElem? (i := 324) (by decide +kernel)) (by decide +kernel)
theorem wd_134 : Cond.selects RX5 yX5_refuse yX5_refuse ∈ jm_G := jm_memP (List.mem_of_getElem? (i := 5) (by decide +kernel)) (by decide +kernel)
theorem jm_m_5069 : jm_mok (5069, md_X5_refuse, 1, 0) := ⟨by decide, wd_131, wd_99, rfl, by decide +kernel, ⟨by decide, by decide, by decide +kernel⟩, by decide, by decide, fun _ => wd_132, fun h => absurd h (by decide), fun _ => ⟨wd_133, by decide, rfl⟩, fun _ => wd_134, fun h => absurd h (by decide)⟩
theorem wd_135 : Cond.code yX5_sortOf cX5_sortOf 1 (some .int) ∈ jm_G := jm_memG (List.mem_of_getElem? (i := 345) (by decide +kernel)) (by decide +kernel)
theorem wd_136 : Cond.methodLink RX5 72 yX5_sortOf ∈ jm_G := jm_memG (List.mem_of_getElem? (i := 343) (by decide +kernel)) (by decide +kernel)
theorem wd_137 : Cond.static yX5_sortOf ∈ jm_G := jm_memG (List.mem_of_getElem? (i := 344) (by decide +kernel)) (by decide +kernel)
theorem jm_m_5072 : jm_mok (5072, md_X5_sortOf, 1, 1) := ⟨by decide, wd_135, wd_99, rfl, by decide +kernel, ⟨by decide, by decide, by decide +kernel⟩, by decide, by decide, fun _ => wd_136, fun _ => wd_137, fun h => absurd h (by decide), fun h => absurd h (by decide), fun h => absurd h (by decide)⟩
theorem wd_138 : Cond.code yX2_addBoat cX2_addBoat 4 none ∈ jm_G := jm_memG (List.mem_of_getElem? (i := 349) (by decide +kernel)) (by decide +kernel)
theorem wd_139 : Cond.methodLink RX5 76 yX2_addBoat ∈ jm_G := jm_memG (List.mem_of_getElem? (i := 346) (by decide +kernel)) (by decide +kernel)
theorem wd_140 : Cond.instanceMethod yX2_addBoat ∈ jm_G := jm_memG (List.mem_of_getElem? (i := 347) (by decide +kernel)) (by decide +kernel)
theorem wd_141 : Cond.selects RX2 yX2_addBoat yX2_addBoat ∈ jm_G := jm_memG (List.mem_of_getElem? (i := 348) (by decide +kernel)) (by decide +kernel)
theorem jm_m_5076 : jm_mok (5076, md_X2_addBoat, 3, 0) := ⟨by decide, wd_138, wd_1, rfl, by decide +kernel, ⟨by decide, by decide, by decide +kernel⟩, by decide, by decide, fun _ => wd_139, fun h => absurd h (by decide), fun _ => ⟨wd_140, by decide, rfl⟩, fun _ => wd_141, fun h => absurd h (by decide)⟩
theorem jm_m_5080 : jm_mok (5080, md_X6_within, 3, 3) := ⟨by decide, wd_52, wd_53, rfl, by decide +kernel, ⟨by decide, by decide, by decide +kernel⟩, by decide, by decide, fun h => absurd h (by decide), fun _ => wd_54, fun h => absurd h (by decide), fun h => absurd h (by decide), fun h => absurd h (by decide)⟩
theorem wd_142 : Cond.code yX3_init cX3_init 2 none ∈ jm_G := jm_memG (List.mem_of_getElem? (i := 24) (by decide +kernel)) (by decide +kernel)
theorem wd_143 : Cond.methodLink RX6 9 yX3_init ∈ jm_G := jm_memG (List.mem_of_getElem? (i := 22) (by decide +kernel)) (by decide +kernel)
theorem wd_144 : Cond.instanceMethod yX3_init ∈ jm_G := jm_memG (List.mem_of_getElem? (i := 23) (by decide +kernel)) (by decide +kernel)
theorem jm_m_6009 : jm_mok (6009, md_X3_init, 0, 2) := ⟨by decide, wd_142, wd_56, rfl, by decide +kernel, ⟨by decide, by decide, by decide +kernel⟩, by decide, by decide, fun _ => wd_143, fun h => absurd h (by decide), fun _ => ⟨wd_144, by decide, rfl⟩, fun h => absurd h (by decide), fun _ => ⟨rfl, rfl⟩⟩
theorem wd_145 : Cond.code yX5_init cX5_init 1 none ∈ jm_G := jm_memG (List.mem_of_getElem? (i := 44) (by decide +kernel)) (by decide +kernel)
theorem wd_146 : Cond.instanceMethod yX5_init ∈ jm_G := jm_memG (List.mem_of_getElem? (i := 43) (by decide +kernel)) (by decide +kernel)
theorem jm_m_6018 : jm_mok (6018, md_X5_init, 0, 4) := ⟨by decide, wd_145, wd_99, rfl, by decide +kernel, ⟨by decide, by decide, by decide +kernel⟩, by decide, by decide, fun h => absurd h (by decide), fun h => absurd h (by decide), fun _ => ⟨wd_146, by decide, rfl⟩, fun h => absurd h (by decide), fun _ => ⟨rfl, rfl⟩⟩
theorem wd_147 : Cond.code yX0_init cX0_init 2 none ∈ jm_G := jm_memG (List.mem_of_getElem? (i := 68) (by decide +kernel)) (by decide +kernel)
theorem wd_148 : Cond.initialized RX0 ∈ jm_G := jm_memG (List.mem_of_getElem? (i := 4) (by decide +kernel)) (by decide +kernel)
theorem wd_149 : Cond.methodLink RX6 25 yX0_init ∈ jm_G := jm_memG (List.mem_of_getElem? (i := 66) (by decide +kernel)) (by decide +kernel)
theorem wd_150 : Cond.instanceMethod yX0_init ∈ jm_G := jm_memG (List.mem_of_getElem? (i := 67) (by decide +kernel)) (by decide +kernel)
theorem jm_m_6025 : jm_mok (6025, md_X0_init, 0, 2) := ⟨by decide, wd_147, wd_148, rfl, by decide +kernel, ⟨by decide, by decide, by decide +kernel⟩, by decide, by decide, fun _ => wd_149, fun h => absurd h (by decide), fun _ => ⟨wd_150, by decide, rfl⟩, fun h => absurd h (by decide), fun _ => ⟨rfl, rfl⟩⟩
theorem jm_m_6032 : jm_mok (6032, md_X2_init, 0, 4) := ⟨by decide, wd_0, wd_1, rfl, by decide +kernel, ⟨by decide, by decide, by decide +kernel⟩, by decide, by decide, fun h => absurd h (by decide), fun h => absurd h (by decide), fun _ => ⟨wd_2, by decide, rfl⟩, fun h => absurd h (by decide), fun _ => ⟨rfl, rfl⟩⟩
theorem wd_151 : Cond.code yX4_init cX4_init 2 none ∈ jm_G := jm_memG (List.mem_of_getElem? (i := 162) (by decide +kernel)) (by decide +kernel)
theorem wd_152 : Cond.methodLink RX6 47 yX4_init ∈ jm_G := jm_memG (List.mem_of_getElem? (i := 160) (by decide +kernel)) (by decide +kernel)
theorem wd_153 : Cond.instanceMethod yX4_init ∈ jm_G := jm_memG (List.mem_of_getElem? (i := 161) (by decide +kernel)) (by decide +kernel)
theorem jm_m_6047 : jm_mok (6047, md_X4_init, 1, 2) := ⟨by decide, wd_151, wd_73, rfl, by decide +kernel, ⟨by decide, by decide, by decide +kernel⟩, by decide, by decide, fun _ => wd_152, fun h => absurd h (by decide), fun _ => ⟨wd_153, by decide, rfl⟩, fun h => absurd h (by decide), fun _ => ⟨rfl, rfl⟩⟩
theorem wd_154 : Cond.code yX1_init cX1_init 2 none ∈ jm_G := jm_memG (List.mem_of_getElem? (i := 177) (by decide +kernel)) (by decide +kernel)
theorem wd_155 : Cond.methodLink RX6 56 yX1_init ∈ jm_G := jm_memG (List.mem_of_getElem? (i := 175) (by decide +kernel)) (by decide +kernel)
theorem wd_156 : Cond.instanceMethod yX1_init ∈ jm_G := jm_memG (List.mem_of_getElem? (i := 176) (by decide +kernel)) (by decide +kernel)
theorem jm_m_6056 : jm_mok (6056, md_X1_init, 1, 2) := ⟨by decide, wd_154, wd_8, rfl, by decide +kernel, ⟨by decide, by decide, by decide +kernel⟩, by decide, by decide, fun _ => wd_155, fun h => absurd h (by decide), fun _ => ⟨wd_156, by decide, rfl⟩, fun h => absurd h (by decide), fun _ => ⟨rfl, rfl⟩⟩
theorem wd_157 : Cond.code yX3_isRow cX3_isRow 1 (some .boolean) ∈ jm_G := jm_memG (List.mem_of_getElem? (i := 222) (by decide +kernel)) (by decide +kernel)
theorem wd_158 : Cond.methodLink RX6 61 yX3_isRow ∈ jm_G := jm_memG (List.mem_of_getElem? (i := 220) (by decide +kernel)) (by decide +kernel)
theorem wd_159 : Cond.static yX3_isRow ∈ jm_G := jm_memG (List.mem_of_getElem? (i := 221) (by decide +kernel)) (by decide +kernel)
theorem jm_m_6061 : jm_mok (6061, md_X3_isRow, 1, 1) := ⟨by decide, wd_157, wd_56, rfl, by decide +kernel, ⟨by decide, by decide, by decide +kernel⟩, by decide, by decide, fun _ => wd_158, fun _ => wd_159, fun h => absurd h (by decide), fun h => absurd h (by decide), fun h => absurd h (by decide)⟩
theorem wd_160 : Cond.methodLink RX6 65 yX6_within ∈ jm_G := jm_memG (List.mem_of_getElem? (i := 226) (by decide +kernel)) (by decide +kernel)
theorem jm_m_6065 : jm_mok (6065, md_X6_within, 3, 1) := ⟨by decide, wd_52, wd_53, rfl, by decide +kernel, ⟨by decide, by decide, by decide +kernel⟩, by decide, by decide, fun _ => wd_160, fun _ => wd_54, fun h => absurd h (by decide), fun h => absurd h (by decide), fun h => absurd h (by decide)⟩
theorem wd_161 : Cond.code yX6_finding cX6_finding 2 (some .int) ∈ jm_G := jm_memG (List.mem_of_getElem? (i := 231) (by decide +kernel)) (by decide +kernel)
theorem wd_162 : Cond.methodLink RX6 70 yX6_finding ∈ jm_G := jm_memG (List.mem_of_getElem? (i := 228) (by decide +kernel)) (by decide +kernel)
theorem wd_163 : Cond.instanceMethod yX6_finding ∈ jm_G := jm_memG (List.mem_of_getElem? (i := 230) (by decide +kernel)) (by decide +kernel)
theorem wd_164 : Cond.selects RX6 yX6_finding yX6_finding ∈ jm_G := jm_memP (List.mem_of_getElem? (i := 0) (by decide +kernel)) (by decide +kernel)
theorem jm_m_6070 : jm_mok (6070, md_X6_finding, 1, 0) := ⟨by decide, wd_161, wd_53, rfl, by decide +kernel, ⟨by decide, by decide, by decide +kernel⟩, by decide, by decide, fun _ => wd_162, fun h => absurd h (by decide), fun _ => ⟨wd_163, by decide, rfl⟩, fun _ => wd_164, fun h => absurd h (by decide)⟩
theorem wd_165 : Cond.code yX3_make cX3_make 5 none ∈ jm_G := jm_memG (List.mem_of_getElem? (i := 236) (by decide +kernel)) (by decide +kernel)
theorem wd_166 : Cond.methodLink RX6 74 yX3_make ∈ jm_G := jm_memG (List.mem_of_getElem? (i := 233) (by decide +kernel)) (by decide +kernel)
theorem wd_167 : Cond.instanceMethod yX3_make ∈ jm_G := jm_memG (List.mem_of_getElem? (i := 234) (by decide +kernel)) (by decide +kernel)
theorem wd_168 : Cond.selects RX3 yX3_make yX3_make ∈ jm_G := jm_memG (List.mem_of_getElem? (i := 235) (by decide +kernel)) (by decide +kernel)
theorem jm_m_6074 : jm_mok (6074, md_X3_make, 3, 0) := ⟨by decide, wd_165, wd_56, rfl, by decide +kernel, ⟨by decide, by decide, by decide +kernel⟩, by decide, by decide, fun _ => wd_166, fun h => absurd h (by decide), fun _ => ⟨wd_167, by decide, rfl⟩, fun _ => wd_168, fun h => absurd h (by decide)⟩
theorem wd_169 : Cond.code yX6_fine cX6_fine 2 (some .int) ∈ jm_G := jm_memG (List.mem_of_getElem? (i := 240) (by decide +kernel)) (by decide +kernel)
theorem wd_170 : Cond.methodLink RX6 78 yX6_fine ∈ jm_G := jm_memG (List.mem_of_getElem? (i := 237) (by decide +kernel)) (by decide +kernel)
theorem wd_171 : Cond.instanceMethod yX6_fine ∈ jm_G := jm_memG (List.mem_of_getElem? (i := 239) (by decide +kernel)) (by decide +kernel)
theorem wd_172 : Cond.selects RX6 yX6_fine yX6_fine ∈ jm_G := jm_memP (List.mem_of_getElem? (i := 1) (by decide +kernel)) (by decide +kernel)
theorem jm_m_6078 : jm_mok (6078, md_X6_fine, 1, 0) := ⟨by decide, wd_169, wd_53, rfl, by decide +kernel, ⟨by decide, by decide, by decide +kernel⟩, by decide, by decide, fun _ => wd_170, fun h => absurd h (by decide), fun _ => ⟨wd_171, by decide, rfl⟩, fun _ => wd_172, fun h => absurd h (by decide)⟩
theorem wd_173 : Cond.methodLink RX6 81 yX3_isMissing ∈ jm_G := jm_memG (List.mem_of_getElem? (i := 245) (by decide +kernel)) (by decide +kernel)
theorem jm_m_6081 : jm_mok (6081, md_X3_isMissing, 1, 0) := ⟨by decide, wd_55, wd_56, rfl, by decide +kernel, ⟨by decide, by decide, by decide +kernel⟩, by decide, by decide, fun _ => wd_173, fun h => absurd h (by decide), fun _ => ⟨wd_58, by decide, rfl⟩, fun _ => wd_59, fun h => absurd h (by decide)⟩
theorem wd_174 : Cond.code yX3_hasPlaces cX3_hasPlaces 4 (some .boolean) ∈ jm_G := jm_memG (List.mem_of_getElem? (i := 252) (by decide +kernel)) (by decide +kernel)
theorem wd_175 : Cond.methodLink RX6 84 yX3_hasPlaces ∈ jm_G := jm_memG (List.mem_of_getElem? (i := 249) (by decide +kernel)) (by decide +kernel)
theorem wd_176 : Cond.instanceMethod yX3_hasPlaces ∈ jm_G := jm_memG (List.mem_of_getElem? (i := 250) (by decide +kernel)) (by decide +kernel)
theorem wd_177 : Cond.selects RX3 yX3_hasPlaces yX3_hasPlaces ∈ jm_G := jm_memG (List.mem_of_getElem? (i := 251) (by decide +kernel)) (by decide +kernel)
theorem jm_m_6084 : jm_mok (6084, md_X3_hasPlaces, 3, 0) := ⟨by decide, wd_174, wd_56, rfl, by decide +kernel, ⟨by decide, by decide, by decide +kernel⟩, by decide, by decide, fun _ => wd_175, fun h => absurd h (by decide), fun _ => ⟨wd_176, by decide, rfl⟩, fun _ => wd_177, fun h => absurd h (by decide)⟩
theorem wd_178 : Cond.code yX3_put cX3_put 5 (some .int) ∈ jm_G := jm_memG (List.mem_of_getElem? (i := 256) (by decide +kernel)) (by decide +kernel)
theorem wd_179 : Cond.methodLink RX6 87 yX3_put ∈ jm_G := jm_memG (List.mem_of_getElem? (i := 253) (by decide +kernel)) (by decide +kernel)
theorem wd_180 : Cond.instanceMethod yX3_put ∈ jm_G := jm_memG (List.mem_of_getElem? (i := 254) (by decide +kernel)) (by decide +kernel)
theorem wd_181 : Cond.selects RX3 yX3_put yX3_put ∈ jm_G := jm_memG (List.mem_of_getElem? (i := 255) (by decide +kernel)) (by decide +kernel)
theorem jm_m_6087 : jm_mok (6087, md_X3_put, 3, 0) := ⟨by decide, wd_178, wd_56, rfl, by decide +kernel, ⟨by decide, by decide, by decide +kernel⟩, by decide, by decide, fun _ => wd_179, fun h => absurd h (by decide), fun _ => ⟨wd_180, by decide, rfl⟩, fun _ => wd_181, fun h => absurd h (by decide)⟩
theorem wd_182 : Cond.code yX3_sameLane cX3_sameLane 3 (some .boolean) ∈ jm_G := jm_memG (List.mem_of_getElem? (i := 264) (by decide +kernel)) (by decide +kernel)
theorem wd_183 : Cond.methodLink RX6 91 yX3_sameLane ∈ jm_G := jm_memG (List.mem_of_getElem? (i := 261) (by decide +kernel)) (by decide +kernel)
theorem wd_184 : Cond.instanceMethod yX3_sameLane ∈ jm_G := jm_memG (List.mem_of_getElem? (i := 262) (by decide +kernel)) (by decide +kernel)
theorem wd_185 : Cond.selects RX3 yX3_sameLane yX3_sameLane ∈ jm_G := jm_memG (List.mem_of_getElem? (i := 263) (by decide +kernel)) (by decide +kernel)
theorem jm_m_6091 : jm_mok (6091, md_X3_sameLane, 2, 0) := ⟨by decide, wd_182, wd_56, rfl, by decide +kernel, ⟨by decide, by decide, by decide +kernel⟩, by decide, by decide, fun _ => wd_183, fun h => absurd h (by decide), fun _ => ⟨wd_184, by decide, rfl⟩, fun _ => wd_185, fun h => absurd h (by decide)⟩
theorem wd_186 : Cond.code yX3_move cX3_move 6 none ∈ jm_G := jm_memG (List.mem_of_getElem? (i := 268) (by decide +kernel)) (by decide +kernel)
theorem wd_187 : Cond.methodLink RX6 95 yX3_move ∈ jm_G := jm_memG (List.mem_of_getElem? (i := 265) (by decide +kernel)) (by decide +kernel)
theorem wd_188 : Cond.instanceMethod yX3_move ∈ jm_G := jm_memG (List.mem_of_getElem? (i := 266) (by decide +kernel)) (by decide +kernel)
theorem wd_189 : Cond.selects RX3 yX3_move yX3_move ∈ jm_G := jm_memG (List.mem_of_getElem? (i := 267) (by decide +kernel)) (by decide +kernel)
theorem jm_m_6095 : jm_mok (6095, md_X3_move, 5, 0) := ⟨by decide, wd_186, wd_56, rfl, by decide +kernel, ⟨by decide, by decide, by decide +kernel⟩, by decide, by decide, fun _ => wd_187, fun h => absurd h (by decide), fun _ => ⟨wd_188, by decide, rfl⟩, fun _ => wd_189, fun h => absurd h (by decide)⟩
theorem wd_190 : Cond.code yX3_lose cX3_lose 2 (some .int) ∈ jm_G := jm_memG (List.mem_of_getElem? (i := 279) (by decide +kernel)) (by decide +kernel)
theorem wd_191 : Cond.methodLink RX6 99 yX3_lose ∈ jm_G := jm_memG (List.mem_of_getElem? (i := 276) (by decide +kernel)) (by decide +kernel)
theorem wd_192 : Cond.instanceMethod yX3_lose ∈ jm_G := jm_memG (List.mem_of_getElem? (i := 277) (by decide +kernel)) (by decide +kernel)
theorem wd_193 : Cond.selects RX3 yX3_lose yX3_lose ∈ jm_G := jm_memG (List.mem_of_getElem? (i := 278) (by decide +kernel)) (by decide +kernel)
theorem jm_m_6099 : jm_mok (6099, md_X3_lose, 1, 0) := ⟨by decide, wd_190, wd_56, rfl, by decide +kernel, ⟨by decide, by decide, by decide +kernel⟩, by decide, by decide, fun _ => wd_191, fun h => absurd h (by decide), fun _ => ⟨wd_192, by decide, rfl⟩, fun _ => wd_193, fun h => absurd h (by decide)⟩
theorem wd_194 : Cond.methodLink RX6 102 yX5_isFull ∈ jm_G := jm_memG (List.mem_of_getElem? (i := 284) (by decide +kernel)) (by decide +kernel)
theorem jm_m_6102 : jm_mok (6102, md_X5_isFull, 0, 0) := ⟨by decide, wd_98, wd_99, rfl, by decide +kernel, ⟨by decide, by decide, by decide +kernel⟩, by decide, by decide, fun _ => wd_194, fun h => absurd h (by decide), fun _ => ⟨wd_101, by decide, rfl⟩, fun _ => wd_102, fun h => absurd h (by decide)⟩
theorem wd_195 : Cond.code yX5_add cX5_add 2 (some .int) ∈ jm_G := jm_memG (List.mem_of_getElem? (i := 292) (by decide +kernel)) (by decide +kernel)
theorem wd_196 : Cond.methodLink RX6 107 yX5_add ∈ jm_G := jm_memG (List.mem_of_getElem? (i := 289) (by decide +kernel)) (by decide +kernel)
theorem wd_197 : Cond.instanceMethod yX5_add ∈ jm_G := jm_memG (List.mem_of_getElem? (i := 290) (by decide +kernel)) (by decide +kernel)
theorem wd_198 : Cond.selects RX5 yX5_add yX5_add ∈ jm_G := jm_memG (List.mem_of_getElem? (i := 291) (by decide +kernel)) (by decide +kernel)
theorem jm_m_6107 : jm_mok (6107, md_X5_add, 1, 0) := ⟨by decide, wd_195, wd_99, rfl, by decide +kernel, ⟨by decide, by decide, by decide +kernel⟩, by decide, by decide, fun _ => wd_196, fun h => absurd h (by decide), fun _ => ⟨wd_197, by decide, rfl⟩, fun _ => wd_198, fun h => absurd h (by decide)⟩
theorem wd_199 : Cond.code yX4_blank cX4_blank 1 (some (.object "SpringIsle$Isle")) ∈ jm_G := jm_memG (List.mem_of_getElem? (i := 301) (by decide +kernel)) (by decide +kernel)
theorem wd_200 : Cond.methodLink RX6 110 yX4_blank ∈ jm_G := jm_memG (List.mem_of_getElem? (i := 298) (by decide +kernel)) (by decide +kernel)
theorem wd_201 : Cond.instanceMethod yX4_blank ∈ jm_G := jm_memG (List.mem_of_getElem? (i := 299) (by decide +kernel)) (by decide +kernel)
theorem wd_202 : Cond.selects RX4 yX4_blank yX4_blank ∈ jm_G := jm_memG (List.mem_of_getElem? (i := 300) (by decide +kernel)) (by decide +kernel)
theorem jm_m_6110 : jm_mok (6110, md_X4_blank, 0, 0) := ⟨by decide, wd_199, wd_73, rfl, by decide +kernel, ⟨by decide, by decide, by decide +kernel⟩, by decide, by decide, fun _ => wd_200, fun h => absurd h (by decide), fun _ => ⟨wd_201, by decide, rfl⟩, fun _ => wd_202, fun h => absurd h (by decide)⟩
theorem wd_203 : Cond.code yX5_readInto cX5_readInto 3 (some .int) ∈ jm_G := jm_memG (List.mem_of_getElem? (i := 309) (by decide +kernel)) (by decide +kernel)
theorem wd_204 : Cond.methodLink RX6 114 yX5_readInto ∈ jm_G := jm_memG (List.mem_of_getElem? (i := 306) (by decide +kernel)) (by decide +kernel)
theorem wd_205 : Cond.instanceMethod yX5_readInto ∈ jm_G := jm_memG (List.mem_of_getElem? (i := 307) (by decide +kernel)) (by decide +kernel)
theorem wd_206 : Cond.selects RX5 yX5_readInto yX5_readInto ∈ jm_G := jm_memG (List.mem_of_getElem? (i := 308) (by decide +kernel)) (by decide +kernel)
theorem jm_m_6114 : jm_mok (6114, md_X5_readInto, 1, 0) := ⟨by decide, wd_203, wd_99, rfl, by decide +kernel, ⟨by decide, by decide, by decide +kernel⟩, by decide, by decide, fun _ => wd_204, fun h => absurd h (by decide), fun _ => ⟨wd_205, by decide, rfl⟩, fun _ => wd_206, fun h => absurd h (by decide)⟩
theorem wd_207 : Cond.methodLink RX6 119 yX2_become ∈ jm_G := jm_memG (List.mem_of_getElem? (i := 351) (by decide +kernel)) (by decide +kernel)
theorem jm_m_6119 : jm_mok (6119, md_X2_become, 1, 0) := ⟨by decide, wd_3, wd_1, rfl, by decide +kernel, ⟨by decide, by decide, by decide +kernel⟩, by decide, by decide, fun _ => wd_207, fun h => absurd h (by decide), fun _ => ⟨wd_5, by decide, rfl⟩, fun _ => wd_6, fun h => absurd h (by decide)⟩
theorem wd_208 : Cond.code yX0_forget cX0_forget 1 none ∈ jm_G := jm_memG (List.mem_of_getElem? (i := 359) (by decide +kernel)) (by decide +kernel)
theorem wd_209 : Cond.methodLink RX6 122 yX0_forget ∈ jm_G := jm_memG (List.mem_of_getElem? (i := 356) (by decide +kernel)) (by decide +kernel)
theorem wd_210 : Cond.instanceMethod yX0_forget ∈ jm_G := jm_memG (List.mem_of_getElem? (i := 357) (by decide +kernel)) (by decide +kernel)
theorem wd_211 : Cond.selects RX0 yX0_forget yX0_forget ∈ jm_G := jm_memG (List.mem_of_getElem? (i := 358) (by decide +kernel)) (by decide +kernel)
theorem jm_m_6122 : jm_mok (6122, md_X0_forget, 0, 0) := ⟨by decide, wd_208, wd_148, rfl, by decide +kernel, ⟨by decide, by decide, by decide +kernel⟩, by decide, by decide, fun _ => wd_209, fun h => absurd h (by decide), fun _ => ⟨wd_210, by decide, rfl⟩, fun _ => wd_211, fun h => absurd h (by decide)⟩
theorem wd_212 : Cond.code yX0_takeBack cX0_takeBack 2 none ∈ jm_G := jm_memG (List.mem_of_getElem? (i := 372) (by decide +kernel)) (by decide +kernel)
theorem wd_213 : Cond.methodLink RX6 135 yX0_takeBack ∈ jm_G := jm_memG (List.mem_of_getElem? (i := 369) (by decide +kernel)) (by decide +kernel)
theorem wd_214 : Cond.instanceMethod yX0_takeBack ∈ jm_G := jm_memG (List.mem_of_getElem? (i := 370) (by decide +kernel)) (by decide +kernel)
theorem wd_215 : Cond.selects RX0 yX0_takeBack yX0_takeBack ∈ jm_G := jm_memG (List.mem_of_getElem? (i := 371) (by decide +kernel)) (by decide +kernel)
theorem jm_m_6135 : jm_mok (6135, md_X0_takeBack, 1, 0) := ⟨by decide, wd_212, wd_148, rfl, by decide +kernel, ⟨by decide, by decide, by decide +kernel⟩, by decide, by decide, fun _ => wd_213, fun h => absurd h (by decide), fun _ => ⟨wd_214, by decide, rfl⟩, fun _ => wd_215, fun h => absurd h (by decide)⟩
theorem wd_216 : Cond.code yX2_stands cX2_stands 1 (some .boolean) ∈ jm_G := jm_memG (List.mem_of_getElem? (i := 381) (by decide +kernel)) (by decide +kernel)
theorem wd_217 : Cond.methodLink RX6 138 yX2_stands ∈ jm_G := jm_memG (List.mem_of_getElem? (i := 378) (by decide +kernel)) (by decide +kernel)
theorem wd_218 : Cond.instanceMethod yX2_stands ∈ jm_G := jm_memG (List.mem_of_getElem? (i := 379) (by decide +kernel)) (by decide +kernel)
theorem wd_219 : Cond.selects RX2 yX2_stands yX2_stands ∈ jm_G := jm_memG (List.mem_of_getElem? (i := 380) (by decide +kernel)) (by decide +kernel)
theorem jm_m_6138 : jm_mok (6138, md_X2_stands, 0, 0) := ⟨by decide, wd_216, wd_1, rfl, by decide +kernel, ⟨by decide, by decide, by decide +kernel⟩, by decide, by decide, fun _ => wd_217, fun h => absurd h (by decide), fun _ => ⟨wd_218, by decide, rfl⟩, fun _ => wd_219, fun h => absurd h (by decide)⟩
theorem wd_220 : Cond.code yX0_keep cX0_keep 2 none ∈ jm_G := jm_memG (List.mem_of_getElem? (i := 385) (by decide +kernel)) (by decide +kernel)
theorem wd_221 : Cond.methodLink RX6 144 yX0_keep ∈ jm_G := jm_memG (List.mem_of_getElem? (i := 382) (by decide +kernel)) (by decide +kernel)
theorem wd_222 : Cond.instanceMethod yX0_keep ∈ jm_G := jm_memG (List.mem_of_getElem? (i := 383) (by decide +kernel)) (by decide +kernel)
theorem wd_223 : Cond.selects RX0 yX0_keep yX0_keep ∈ jm_G := jm_memG (List.mem_of_getElem? (i := 384) (by decide +kernel)) (by decide +kernel)
theorem jm_m_6144 : jm_mok (6144, md_X0_keep, 1, 0) := ⟨by decide, wd_220, wd_148, rfl, by decide +kernel, ⟨by decide, by decide, by decide +kernel⟩, by decide, by decide, fun _ => wd_221, fun h => absurd h (by decide), fun _ => ⟨wd_222, by decide, rfl⟩, fun _ => wd_223, fun h => absurd h (by decide)⟩
theorem wd_224 : Cond.methodLink RX6 147 yX2_pass ∈ jm_G := jm_memG (List.mem_of_getElem? (i := 389) (by decide +kernel)) (by decide +kernel)
theorem jm_m_6147 : jm_mok (6147, md_X2_pass, 0, 0) := ⟨by decide, wd_48, wd_1, rfl, by decide +kernel, ⟨by decide, by decide, by decide +kernel⟩, by decide, by decide, fun _ => wd_224, fun h => absurd h (by decide), fun _ => ⟨wd_50, by decide, rfl⟩, fun _ => wd_51, fun h => absurd h (by decide)⟩
theorem wd_225 : Cond.code yX6_boatOrNone cX6_boatOrNone 1 (some .int) ∈ jm_G := jm_memG (List.mem_of_getElem? (i := 422) (by decide +kernel)) (by decide +kernel)
theorem wd_226 : Cond.methodLink RX6 153 yX6_boatOrNone ∈ jm_G := jm_memG (List.mem_of_getElem? (i := 420) (by decide +kernel)) (by decide +kernel)
theorem wd_227 : Cond.static yX6_boatOrNone ∈ jm_G := jm_memG (List.mem_of_getElem? (i := 421) (by decide +kernel)) (by decide +kernel)
theorem jm_m_6153 : jm_mok (6153, md_X6_boatOrNone, 1, 1) := ⟨by decide, wd_225, wd_53, rfl, by decide +kernel, ⟨by decide, by decide, by decide +kernel⟩, by decide, by decide, fun _ => wd_226, fun _ => wd_227, fun h => absurd h (by decide), fun h => absurd h (by decide), fun h => absurd h (by decide)⟩
theorem wd_228 : Cond.methodLink RX6 156 yX2_hasBoat ∈ jm_G := jm_memG (List.mem_of_getElem? (i := 428) (by decide +kernel)) (by decide +kernel)
theorem jm_m_6156 : jm_mok (6156, md_X2_hasBoat, 1, 0) := ⟨by decide, wd_44, wd_1, rfl, by decide +kernel, ⟨by decide, by decide, by decide +kernel⟩, by decide, by decide, fun _ => wd_228, fun h => absurd h (by decide), fun _ => ⟨wd_46, by decide, rfl⟩, fun _ => wd_47, fun h => absurd h (by decide)⟩
theorem wd_229 : Cond.methodLink RX6 159 yX2_isSent ∈ jm_G := jm_memG (List.mem_of_getElem? (i := 429) (by decide +kernel)) (by decide +kernel)
theorem jm_m_6159 : jm_mok (6159, md_X2_isSent, 1, 0) := ⟨by decide, wd_32, wd_1, rfl, by decide +kernel, ⟨by decide, by decide, by decide +kernel⟩, by decide, by decide, fun _ => wd_229, fun h => absurd h (by decide), fun _ => ⟨wd_34, by decide, rfl⟩, fun _ => wd_35, fun h => absurd h (by decide)⟩
theorem wd_230 : Cond.code yX2_hasCell cX2_hasCell 2 (some .boolean) ∈ jm_G := jm_memG (List.mem_of_getElem? (i := 441) (by decide +kernel)) (by decide +kernel)
theorem wd_231 : Cond.methodLink RX6 168 yX2_hasCell ∈ jm_G := jm_memG (List.mem_of_getElem? (i := 438) (by decide +kernel)) (by decide +kernel)
theorem wd_232 : Cond.instanceMethod yX2_hasCell ∈ jm_G := jm_memG (List.mem_of_getElem? (i := 439) (by decide +kernel)) (by decide +kernel)
theorem wd_233 : Cond.selects RX2 yX2_hasCell yX2_hasCell ∈ jm_G := jm_memG (List.mem_of_getElem? (i := 440) (by decide +kernel)) (by decide +kernel)
theorem jm_m_6168 : jm_mok (6168, md_X2_hasCell, 1, 0) := ⟨by decide, wd_230, wd_1, rfl, by decide +kernel, ⟨by decide, by decide, by decide +kernel⟩, by decide, by decide, fun _ => wd_231, fun h => absurd h (by decide), fun _ => ⟨wd_232, by decide, rfl⟩, fun _ => wd_233, fun h => absurd h (by decide)⟩
theorem wd_234 : Cond.methodLink RX6 181 yX6_bit ∈ jm_G := jm_memG (List.mem_of_getElem? (i := 450) (by decide +kernel)) (by decide +kernel)
theorem jm_m_6181 : jm_mok (6181, md_X6_bit, 1, 1) := ⟨by decide, wd_60, wd_53, rfl, by decide +kernel, ⟨by decide, by decide, by decide +kernel⟩, by decide, by decide, fun _ => wd_234, fun _ => wd_61, fun h => absurd h (by decide), fun h => absurd h (by decide), fun h => absurd h (by decide)⟩
theorem wd_235 : Cond.methodLink RX6 185 yX2_showsBehind ∈ jm_G := jm_memG (List.mem_of_getElem? (i := 453) (by decide +kernel)) (by decide +kernel)
theorem jm_m_6185 : jm_mok (6185, md_X2_showsBehind, 1, 0) := ⟨by decide, wd_28, wd_1, rfl, by decide +kernel, ⟨by decide, by decide, by decide +kernel⟩, by decide, by decide, fun _ => wd_235, fun h => absurd h (by decide), fun _ => ⟨wd_30, by decide, rfl⟩, fun _ => wd_31, fun h => absurd h (by decide)⟩
theorem wd_236 : Cond.methodLink RX6 188 yX2_wayOf ∈ jm_G := jm_memG (List.mem_of_getElem? (i := 454) (by decide +kernel)) (by decide +kernel)
theorem jm_m_6188 : jm_mok (6188, md_X2_wayOf, 2, 0) := ⟨by decide, wd_36, wd_1, rfl, by decide +kernel, ⟨by decide, by decide, by decide +kernel⟩, by decide, by decide, fun _ => wd_236, fun h => absurd h (by decide), fun _ => ⟨wd_38, by decide, rfl⟩, fun _ => wd_39, fun h => absurd h (by decide)⟩
theorem wd_237 : Cond.methodLink RX6 198 yX2_waterBehind ∈ jm_G := jm_memG (List.mem_of_getElem? (i := 459) (by decide +kernel)) (by decide +kernel)
theorem jm_m_6198 : jm_mok (6198, md_X2_waterBehind, 1, 0) := ⟨by decide, wd_24, wd_1, rfl, by decide +kernel, ⟨by decide, by decide, by decide +kernel⟩, by decide, by decide, fun _ => wd_237, fun h => absurd h (by decide), fun _ => ⟨wd_26, by decide, rfl⟩, fun _ => wd_27, fun h => absurd h (by decide)⟩
theorem wd_238 : Cond.code yX2_boatsThere cX2_boatsThere 3 (some .int) ∈ jm_G := jm_memG (List.mem_of_getElem? (i := 467) (by decide +kernel)) (by decide +kernel)
theorem wd_239 : Cond.methodLink RX6 201 yX2_boatsThere ∈ jm_G := jm_memG (List.mem_of_getElem? (i := 464) (by decide +kernel)) (by decide +kernel)
theorem wd_240 : Cond.instanceMethod yX2_boatsThere ∈ jm_G := jm_memG (List.mem_of_getElem? (i := 465) (by decide +kernel)) (by decide +kernel)
theorem wd_241 : Cond.selects RX2 yX2_boatsThere yX2_boatsThere ∈ jm_G := jm_memG (List.mem_of_getElem? (i := 466) (by decide +kernel)) (by decide +kernel)
theorem jm_m_6201 : jm_mok (6201, md_X2_boatsThere, 0, 0) := ⟨by decide, wd_238, wd_1, rfl, by decide +kernel, ⟨by decide, by decide, by decide +kernel⟩, by decide, by decide, fun _ => wd_239, fun h => absurd h (by decide), fun _ => ⟨wd_240, by decide, rfl⟩, fun _ => wd_241, fun h => absurd h (by decide)⟩
theorem wd_242 : Cond.code yX4_behind cX4_behind 2 (some (.object "SpringIsle$Isle")) ∈ jm_G := jm_memG (List.mem_of_getElem? (i := 475) (by decide +kernel)) (by decide +kernel)
theorem wd_243 : Cond.methodLink RX6 205 yX4_behind ∈ jm_G := jm_memG (List.mem_of_getElem? (i := 472) (by decide +kernel)) (by decide +kernel)
theorem wd_244 : Cond.instanceMethod yX4_behind ∈ jm_G := jm_memG (List.mem_of_getElem? (i := 473) (by decide +kernel)) (by decide +kernel)
theorem wd_245 : Cond.selects RX4 yX4_behind yX4_behind ∈ jm_G := jm_memG (List.mem_of_getElem? (i := 474) (by decide +kernel)) (by decide +kernel)
theorem jm_m_6205 : jm_mok (6205, md_X4_behind, 1, 0) := ⟨by decide, wd_242, wd_73, rfl, by decide +kernel, ⟨by decide, by decide, by decide +kernel⟩, by decide, by decide, fun _ => wd_243, fun h => absurd h (by decide), fun _ => ⟨wd_244, by decide, rfl⟩, fun _ => wd_245, fun h => absurd h (by decide)⟩
theorem wd_246 : Cond.code yX2_dryBehind cX2_dryBehind 5 (some .int) ∈ jm_G := jm_memG (List.mem_of_getElem? (i := 501) (by decide +kernel)) (by decide +kernel)
theorem wd_247 : Cond.methodLink RX6 210 yX2_dryBehind ∈ jm_G := jm_memG (List.mem_of_getElem? (i := 498) (by decide +kernel)) (by decide +kernel)
theorem wd_248 : Cond.instanceMethod yX2_dryBehind ∈ jm_G := jm_memG (List.mem_of_getElem? (i := 499) (by decide +kernel)) (by decide +kernel)
theorem wd_249 : Cond.selects RX2 yX2_dryBehind yX2_dryBehind ∈ jm_G := jm_memG (List.mem_of_getElem? (i := 500) (by decide +kernel)) (by decide +kernel)
theorem jm_m_6210 : jm_mok (6210, md_X2_dryBehind, 1, 0) := ⟨by decide, wd_246, wd_1, rfl, by decide +kernel, ⟨by decide, by decide, by decide +kernel⟩, by decide, by decide, fun _ => wd_247, fun h => absurd h (by decide), fun _ => ⟨wd_248, by decide, rfl⟩, fun _ => wd_249, fun h => absurd h (by decide)⟩
theorem wd_250 : Cond.code yX4_firstOwner cX4_firstOwner 3 (some .int) ∈ jm_G := jm_memG (List.mem_of_getElem? (i := 513) (by decide +kernel)) (by decide +kernel)
theorem wd_251 : Cond.methodLink RX6 213 yX4_firstOwner ∈ jm_G := jm_memG (List.mem_of_getElem? (i := 510) (by decide +kernel)) (by decide +kernel)
theorem wd_252 : Cond.instanceMethod yX4_firstOwner ∈ jm_G := jm_memG (List.mem_of_getElem? (i := 511) (by decide +kernel)) (by decide +kernel)
theorem wd_253 : Cond.selects RX4 yX4_firstOwner yX4_firstOwner ∈ jm_G := jm_memG (List.mem_of_getElem? (i := 512) (by decide +kernel)) (by decide +kernel)
theorem jm_m_6213 : jm_mok (6213, md_X4_firstOwner, 1, 0) := ⟨by decide, wd_250, wd_73, rfl, by decide +kernel, ⟨by decide, by decide, by decide +kernel⟩, by decide, by decide, fun _ => wd_251, fun h => absurd h (by decide), fun _ => ⟨wd_252, by decide, rfl⟩, fun _ => wd_253, fun h => absurd h (by decide)⟩
theorem wd_254 : Cond.code yX4_ownsIfSentBehind cX4_ownsIfSentBehind 4 (some .boolean) ∈ jm_G := jm_memG (List.mem_of_getElem? (i := 522) (by decide +kernel)) (by decide +kernel)
theorem wd_255 : Cond.methodLink RX6 216 yX4_ownsIfSentBehind ∈ jm_G := jm_memG (List.mem_of_getElem? (i := 519) (by decide +kernel)) (by decide +kernel)
theorem wd_256 : Cond.instanceMethod yX4_ownsIfSentBehind ∈ jm_G := jm_memG (List.mem_of_getElem? (i := 520) (by decide +kernel)) (by decide +kernel)
theorem wd_257 : Cond.selects RX4 yX4_ownsIfSentBehind yX4_ownsIfSentBehind ∈ jm_G := jm_memG (List.mem_of_getElem? (i := 521) (by decide +kernel)) (by decide +kernel)
theorem jm_m_6216 : jm_mok (6216, md_X4_ownsIfSentBehind, 3, 0) := ⟨by decide, wd_254, wd_73, rfl, by decide +kernel, ⟨by decide, by decide, by decide +kernel⟩, by decide, by decide, fun _ => wd_255, fun h => absurd h (by decide), fun _ => ⟨wd_256, by decide, rfl⟩, fun _ => wd_257, fun h => absurd h (by decide)⟩
theorem wd_258 : Cond.code yX4_windsFor cX4_windsFor 5 (some .int) ∈ jm_G := jm_memG (List.mem_of_getElem? (i := 530) (by decide +kernel)) (by decide +kernel)
theorem wd_259 : Cond.methodLink RX6 219 yX4_windsFor ∈ jm_G := jm_memG (List.mem_of_getElem? (i := 527) (by decide +kernel)) (by decide +kernel)
theorem wd_260 : Cond.instanceMethod yX4_windsFor ∈ jm_G := jm_memG (List.mem_of_getElem? (i := 528) (by decide +kernel)) (by decide +kernel)
theorem wd_261 : Cond.selects RX4 yX4_windsFor yX4_windsFor ∈ jm_G := jm_memG (List.mem_of_getElem? (i := 529) (by decide +kernel)) (by decide +kernel)
theorem jm_m_6219 : jm_mok (6219, md_X4_windsFor, 2, 0) := ⟨by decide, wd_258, wd_73, rfl, by decide +kernel, ⟨by decide, by decide, by decide +kernel⟩, by decide, by decide, fun _ => wd_259, fun h => absurd h (by decide), fun _ => ⟨wd_260, by decide, rfl⟩, fun _ => wd_261, fun h => absurd h (by decide)⟩
theorem wd_262 : Cond.code yX4_fewestKeptHome cX4_fewestKeptHome 6 (some .int) ∈ jm_G := jm_memG (List.mem_of_getElem? (i := 538) (by decide +kernel)) (by decide +kernel)
theorem wd_263 : Cond.methodLink RX6 223 yX4_fewestKeptHome ∈ jm_G := jm_memG (List.mem_of_getElem? (i := 535) (by decide +kernel)) (by decide +kernel)
theorem wd_264 : Cond.instanceMethod yX4_fewestKeptHome ∈ jm_G := jm_memG (List.mem_of_getElem? (i := 536) (by decide +kernel)) (by decide +kernel)
theorem wd_265 : Cond.selects RX4 yX4_fewestKeptHome yX4_fewestKeptHome ∈ jm_G := jm_memG (List.mem_of_getElem? (i := 537) (by decide +kernel)) (by decide +kernel)
theorem jm_m_6223 : jm_mok (6223, md_X4_fewestKeptHome, 2, 0) := ⟨by decide, wd_262, wd_73, rfl, by decide +kernel, ⟨by decide, by decide, by decide +kernel⟩, by decide, by decide, fun _ => wd_263, fun h => absurd h (by decide), fun _ => ⟨wd_264, by decide, rfl⟩, fun _ => wd_265, fun h => absurd h (by decide)⟩
theorem wd_266 : Cond.code yX6_sizeOrSet cX6_sizeOrSet 2 (some .int) ∈ jm_G := jm_memG (List.mem_of_getElem? (i := 554) (by decide +kernel)) (by decide +kernel)
theorem wd_267 : Cond.methodLink RX6 226 yX6_sizeOrSet ∈ jm_G := jm_memG (List.mem_of_getElem? (i := 552) (by decide +kernel)) (by decide +kernel)
theorem wd_268 : Cond.static yX6_sizeOrSet ∈ jm_G := jm_memG (List.mem_of_getElem? (i := 553) (by decide +kernel)) (by decide +kernel)
theorem jm_m_6226 : jm_mok (6226, md_X6_sizeOrSet, 2, 1) := ⟨by decide, wd_266, wd_53, rfl, by decide +kernel, ⟨by decide, by decide, by decide +kernel⟩, by decide, by decide, fun _ => wd_267, fun _ => wd_268, fun h => absurd h (by decide), fun h => absurd h (by decide), fun h => absurd h (by decide)⟩
theorem wd_269 : Cond.code yX4_fewestSent cX4_fewestSent 4 (some .int) ∈ jm_G := jm_memG (List.mem_of_getElem? (i := 563) (by decide +kernel)) (by decide +kernel)
theorem wd_270 : Cond.methodLink RX6 229 yX4_fewestSent ∈ jm_G := jm_memG (List.mem_of_getElem? (i := 560) (by decide +kernel)) (by decide +kernel)
theorem wd_271 : Cond.instanceMethod yX4_fewestSent ∈ jm_G := jm_memG (List.mem_of_getElem? (i := 561) (by decide +kernel)) (by decide +kernel)
theorem wd_272 : Cond.selects RX4 yX4_fewestSent yX4_fewestSent ∈ jm_G := jm_memG (List.mem_of_getElem? (i := 562) (by decide +kernel)) (by decide +kernel)
theorem jm_m_6229 : jm_mok (6229, md_X4_fewestSent, 1, 0) := ⟨by decide, wd_269, wd_73, rfl, by decide +kernel, ⟨by decide, by decide, by decide +kernel⟩, by decide, by decide, fun _ => wd_270, fun h => absurd h (by decide), fun _ => ⟨wd_271, by decide, rfl⟩, fun _ => wd_272, fun h => absurd h (by decide)⟩
theorem wd_273 : Cond.code yX4_showsAllBy cX4_showsAllBy 4 (some .boolean) ∈ jm_G := jm_memG (List.mem_of_getElem? (i := 571) (by decide +kernel)) (by decide +kernel)
theorem wd_274 : Cond.methodLink RX6 232 yX4_showsAllBy ∈ jm_G := jm_memG (List.mem_of_getElem? (i := 568) (by decide +kernel)) (by decide +kernel)
theorem wd_275 : Cond.instanceMethod yX4_showsAllBy ∈ jm_G := jm_memG (List.mem_of_getElem? (i := 569) (by decide +kernel)) (by decide +kernel)
theorem wd_276 : Cond.selects RX4 yX4_showsAllBy yX4_showsAllBy ∈ jm_G := jm_memG (List.mem_of_getElem? (i := 570) (by decide +kernel)) (by decide +kernel)
theorem jm_m_6232 : jm_mok (6232, md_X4_showsAllBy, 2, 0) := ⟨by decide, wd_273, wd_73, rfl, by decide +kernel, ⟨by decide, by decide, by decide +kernel⟩, by decide, by decide, fun _ => wd_274, fun h => absurd h (by decide), fun _ => ⟨wd_275, by decide, rfl⟩, fun _ => wd_276, fun h => absurd h (by decide)⟩
theorem wd_277 : Cond.code yX4_fitting cX4_fitting 10 (some .int) ∈ jm_G := jm_memG (List.mem_of_getElem? (i := 580) (by decide +kernel)) (by decide +kernel)
theorem wd_278 : Cond.methodLink RX6 239 yX4_fitting ∈ jm_G := jm_memG (List.mem_of_getElem? (i := 577) (by decide +kernel)) (by decide +kernel)
theorem wd_279 : Cond.instanceMethod yX4_fitting ∈ jm_G := jm_memG (List.mem_of_getElem? (i := 578) (by decide +kernel)) (by decide +kernel)
theorem wd_280 : Cond.selects RX4 yX4_fitting yX4_fitting ∈ jm_G := jm_memG (List.mem_of_getElem? (i := 579) (by decide +kernel)) (by decide +kernel)
theorem jm_m_6239 : jm_mok (6239, md_X4_fitting, 5, 0) := ⟨by decide, wd_277, wd_73, rfl, by decide +kernel, ⟨by decide, by decide, by decide +kernel⟩, by decide, by decide, fun _ => wd_278, fun h => absurd h (by decide), fun _ => ⟨wd_279, by decide, rfl⟩, fun _ => wd_280, fun h => absurd h (by decide)⟩
theorem wd_281 : Cond.code yX4_barring cX4_barring 6 (some .int) ∈ jm_G := jm_memG (List.mem_of_getElem? (i := 592) (by decide +kernel)) (by decide +kernel)
theorem wd_282 : Cond.methodLink RX6 243 yX4_barring ∈ jm_G := jm_memG (List.mem_of_getElem? (i := 589) (by decide +kernel)) (by decide +kernel)
theorem wd_283 : Cond.instanceMethod yX4_barring ∈ jm_G := jm_memG (List.mem_of_getElem? (i := 590) (by decide +kernel)) (by decide +kernel)
theorem wd_284 : Cond.selects RX4 yX4_barring yX4_barring ∈ jm_G := jm_memG (List.mem_of_getElem? (i := 591) (by decide +kernel)) (by decide +kernel)
theorem jm_m_6243 : jm_mok (6243, md_X4_barring, 3, 0) := ⟨by decide, wd_281, wd_73, rfl, by decide +kernel, ⟨by decide, by decide, by decide +kernel⟩, by decide, by decide, fun _ => wd_282, fun h => absurd h (by decide), fun _ => ⟨wd_283, by decide, rfl⟩, fun _ => wd_284, fun h => absurd h (by decide)⟩
theorem wd_285 : Cond.code yX4_casesFor cX4_casesFor 9 (some .long) ∈ jm_G := jm_memG (List.mem_of_getElem? (i := 606) (by decide +kernel)) (by decide +kernel)
theorem wd_286 : Cond.methodLink RX6 249 yX4_casesFor ∈ jm_G := jm_memG (List.mem_of_getElem? (i := 603) (by decide +kernel)) (by decide +kernel)
theorem wd_287 : Cond.instanceMethod yX4_casesFor ∈ jm_G := jm_memG (List.mem_of_getElem? (i := 604) (by decide +kernel)) (by decide +kernel)
theorem wd_288 : Cond.selects RX4 yX4_casesFor yX4_casesFor ∈ jm_G := jm_memG (List.mem_of_getElem? (i := 605) (by decide +kernel)) (by decide +kernel)
theorem jm_m_6249 : jm_mok (6249, md_X4_casesFor, 3, 0) := ⟨by decide, wd_285, wd_73, rfl, by decide +kernel, ⟨by decide, by decide, by decide +kernel⟩, by decide, by decide, fun _ => wd_286, fun h => absurd h (by decide), fun _ => ⟨wd_287, by decide, rfl⟩, fun _ => wd_288, fun h => absurd h (by decide)⟩
theorem wd_289 : Cond.code yX4_allCases cX4_allCases 4 (some .long) ∈ jm_G := jm_memG (List.mem_of_getElem? (i := 614) (by decide +kernel)) (by decide +kernel)
theorem wd_290 : Cond.methodLink RX6 253 yX4_allCases ∈ jm_G := jm_memG (List.mem_of_getElem? (i := 611) (by decide +kernel)) (by decide +kernel)
theorem wd_291 : Cond.instanceMethod yX4_allCases ∈ jm_G := jm_memG (List.mem_of_getElem? (i := 612) (by decide +kernel)) (by decide +kernel)
theorem wd_292 : Cond.selects RX4 yX4_allCases yX4_allCases ∈ jm_G := jm_memG (List.mem_of_getElem? (i := 613) (by decide +kernel)) (by decide +kernel)
theorem jm_m_6253 : jm_mok (6253, md_X4_allCases, 0, 0) := ⟨by decide, wd_289, wd_73, rfl, by decide +kernel, ⟨by decide, by decide, by decide +kernel⟩, by decide, by decide, fun _ => wd_290, fun h => absurd h (by decide), fun _ => ⟨wd_291, by decide, rfl⟩, fun _ => wd_292, fun h => absurd h (by decide)⟩
theorem wd_293 : Cond.code yX6_commonDivisor cX6_commonDivisor 7 (some .long) ∈ jm_G := jm_memG (List.mem_of_getElem? (i := 618) (by decide +kernel)) (by decide +kernel)
theorem wd_294 : Cond.methodLink RX6 257 yX6_commonDivisor ∈ jm_G := jm_memG (List.mem_of_getElem? (i := 616) (by decide +kernel)) (by decide +kernel)
theorem wd_295 : Cond.static yX6_commonDivisor ∈ jm_G := jm_memG (List.mem_of_getElem? (i := 617) (by decide +kernel)) (by decide +kernel)
theorem jm_m_6257 : jm_mok (6257, md_X6_commonDivisor, 2, 1) := ⟨by decide, wd_293, wd_53, rfl, by decide +kernel, ⟨by decide, by decide, by decide +kernel⟩, by decide, by decide, fun _ => wd_294, fun _ => wd_295, fun h => absurd h (by decide), fun h => absurd h (by decide), fun h => absurd h (by decide)⟩
theorem wd_296 : Cond.code yX4_years cX4_years 10 (some .int) ∈ jm_G := jm_memG (List.mem_of_getElem? (i := 627) (by decide +kernel)) (by decide +kernel)
theorem wd_297 : Cond.methodLink RX6 262 yX4_years ∈ jm_G := jm_memG (List.mem_of_getElem? (i := 624) (by decide +kernel)) (by decide +kernel)
theorem wd_298 : Cond.instanceMethod yX4_years ∈ jm_G := jm_memG (List.mem_of_getElem? (i := 625) (by decide +kernel)) (by decide +kernel)
theorem wd_299 : Cond.selects RX4 yX4_years yX4_years ∈ jm_G := jm_memG (List.mem_of_getElem? (i := 626) (by decide +kernel)) (by decide +kernel)
theorem jm_m_6262 : jm_mok (6262, md_X4_years, 3, 0) := ⟨by decide, wd_296, wd_73, rfl, by decide +kernel, ⟨by decide, by decide, by decide +kernel⟩, by decide, by decide, fun _ => wd_297, fun h => absurd h (by decide), fun _ => ⟨wd_298, by decide, rfl⟩, fun _ => wd_299, fun h => absurd h (by decide)⟩
theorem wd_300 : Cond.code yX1_isA cX1_isA 4 (some .boolean) ∈ jm_G := jm_memG (List.mem_of_getElem? (i := 654) (by decide +kernel)) (by decide +kernel)
theorem wd_301 : Cond.methodLink RX6 269 yX1_isA ∈ jm_G := jm_memG (List.mem_of_getElem? (i := 652) (by decide +kernel)) (by decide +kernel)
theorem wd_302 : Cond.static yX1_isA ∈ jm_G := jm_memG (List.mem_of_getElem? (i := 653) (by decide +kernel)) (by decide +kernel)
theorem jm_m_6269 : jm_mok (6269, md_X1_isA, 2, 1) := ⟨by decide, wd_300, wd_8, rfl, by decide +kernel, ⟨by decide, by decide, by decide +kernel⟩, by decide, by decide, fun _ => wd_301, fun _ => wd_302, fun h => absurd h (by decide), fun h => absurd h (by decide), fun h => absurd h (by decide)⟩
theorem wd_303 : Cond.code yX1_answer cX1_answer 3 (some .int) ∈ jm_G := jm_memG (List.mem_of_getElem? (i := 664) (by decide +kernel)) (by decide +kernel)
theorem wd_304 : Cond.methodLink RX6 272 yX1_answer ∈ jm_G := jm_memG (List.mem_of_getElem? (i := 661) (by decide +kernel)) (by decide +kernel)
theorem wd_305 : Cond.instanceMethod yX1_answer ∈ jm_G := jm_memG (List.mem_of_getElem? (i := 662) (by decide +kernel)) (by decide +kernel)
theorem wd_306 : Cond.selects RX1 yX1_answer yX1_answer ∈ jm_G := jm_memG (List.mem_of_getElem? (i := 663) (by decide +kernel)) (by decide +kernel)
theorem jm_m_6272 : jm_mok (6272, md_X1_answer, 2, 0) := ⟨by decide, wd_303, wd_8, rfl, by decide +kernel, ⟨by decide, by decide, by decide +kernel⟩, by decide, by decide, fun _ => wd_304, fun h => absurd h (by decide), fun _ => ⟨wd_305, by decide, rfl⟩, fun _ => wd_306, fun h => absurd h (by decide)⟩
theorem wd_307 : Cond.code yX3_present cX3_present 3 (some .int) ∈ jm_G := jm_memG (List.mem_of_getElem? (i := 696) (by decide +kernel)) (by decide +kernel)
theorem wd_308 : Cond.methodLink RX6 281 yX3_present ∈ jm_G := jm_memG (List.mem_of_getElem? (i := 693) (by decide +kernel)) (by decide +kernel)
theorem wd_309 : Cond.instanceMethod yX3_present ∈ jm_G := jm_memG (List.mem_of_getElem? (i := 694) (by decide +kernel)) (by decide +kernel)
theorem wd_310 : Cond.selects RX3 yX3_present yX3_present ∈ jm_G := jm_memG (List.mem_of_getElem? (i := 695) (by decide +kernel)) (by decide +kernel)
theorem jm_m_6281 : jm_mok (6281, md_X3_present, 0, 0) := ⟨by decide, wd_307, wd_56, rfl, by decide +kernel, ⟨by decide, by decide, by decide +kernel⟩, by decide, by decide, fun _ => wd_308, fun h => absurd h (by decide), fun _ => ⟨wd_309, by decide, rfl⟩, fun _ => wd_310, fun h => absurd h (by decide)⟩
theorem wd_311 : Cond.code yX2_heldByAll cX2_heldByAll 3 (some .int) ∈ jm_G := jm_memG (List.mem_of_getElem? (i := 702) (by decide +kernel)) (by decide +kernel)
theorem wd_312 : Cond.methodLink RX6 287 yX2_heldByAll ∈ jm_G := jm_memG (List.mem_of_getElem? (i := 699) (by decide +kernel)) (by decide +kernel)
theorem wd_313 : Cond.instanceMethod yX2_heldByAll ∈ jm_G := jm_memG (List.mem_of_getElem? (i := 700) (by decide +kernel)) (by decide +kernel)
theorem wd_314 : Cond.selects RX2 yX2_heldByAll yX2_heldByAll ∈ jm_G := jm_memG (List.mem_of_getElem? (i := 701) (by decide +kernel)) (by decide +kernel)
theorem jm_m_6287 : jm_mok (6287, md_X2_heldByAll, 0, 0) := ⟨by decide, wd_311, wd_1, rfl, by decide +kernel, ⟨by decide, by decide, by decide +kernel⟩, by decide, by decide, fun _ => wd_312, fun h => absurd h (by decide), fun _ => ⟨wd_313, by decide, rfl⟩, fun _ => wd_314, fun h => absurd h (by decide)⟩
theorem wd_315 : Cond.methodLink RX6 292 yJ6_bitCount_0f7a4 ∈ jm_G := jm_memG (List.mem_of_getElem? (i := 555) (by decide +kernel)) (by decide +kernel)
theorem jm_m_6292 : jm_mok (6292, md_J6_bitCount_0f7a4, 1, 1) := ⟨by decide, wd_80, wd_81, rfl, by decide +kernel, ⟨by decide, by decide, by decide +kernel⟩, by decide, by decide, fun _ => wd_315, fun _ => wd_83, fun h => absurd h (by decide), fun h => absurd h (by decide), fun h => absurd h (by decide)⟩
theorem wd_316 : Cond.code yX7_in cX7_in 6 (some .boolean) ∈ jm_G := jm_memG (List.mem_of_getElem? (i := 794) (by decide +kernel)) (by decide +kernel)
theorem wd_317 : Cond.initialized RX7 ∈ jm_G := jm_memG (List.mem_of_getElem? (i := 8) (by decide +kernel)) (by decide +kernel)
theorem wd_318 : Cond.methodLink RX7 54 yX7_in ∈ jm_G := jm_memG (List.mem_of_getElem? (i := 792) (by decide +kernel)) (by decide +kernel)
theorem wd_319 : Cond.static yX7_in ∈ jm_G := jm_memG (List.mem_of_getElem? (i := 793) (by decide +kernel)) (by decide +kernel)
theorem jm_m_7054 : jm_mok (7054, md_X7_in, 3, 1) := ⟨by decide, wd_316, wd_317, rfl, by decide +kernel, ⟨by decide, by decide, by decide +kernel⟩, by decide, by decide, fun _ => wd_318, fun _ => wd_319, fun h => absurd h (by decide), fun h => absurd h (by decide), fun h => absurd h (by decide)⟩
theorem wd_320 : Cond.code yX7_isRow cX7_isRow 1 (some .boolean) ∈ jm_G := jm_memG (List.mem_of_getElem? (i := 790) (by decide +kernel)) (by decide +kernel)
theorem wd_321 : Cond.methodLink RX7 58 yX7_isRow ∈ jm_G := jm_memG (List.mem_of_getElem? (i := 788) (by decide +kernel)) (by decide +kernel)
theorem wd_322 : Cond.static yX7_isRow ∈ jm_G := jm_memG (List.mem_of_getElem? (i := 789) (by decide +kernel)) (by decide +kernel)
theorem jm_m_7058 : jm_mok (7058, md_X7_isRow, 1, 1) := ⟨by decide, wd_320, wd_317, rfl, by decide +kernel, ⟨by decide, by decide, by decide +kernel⟩, by decide, by decide, fun _ => wd_321, fun _ => wd_322, fun h => absurd h (by decide), fun h => absurd h (by decide), fun h => absurd h (by decide)⟩
theorem wd_323 : Cond.code yX7_find cX7_find 2 (some .int) ∈ jm_G := jm_memG (List.mem_of_getElem? (i := 800) (by decide +kernel)) (by decide +kernel)
theorem wd_324 : Cond.methodLink RX7 65 yX7_find ∈ jm_G := jm_memG (List.mem_of_getElem? (i := 797) (by decide +kernel)) (by decide +kernel)
theorem wd_325 : Cond.instanceMethod yX7_find ∈ jm_G := jm_memG (List.mem_of_getElem? (i := 799) (by decide +kernel)) (by decide +kernel)
theorem wd_326 : Cond.selects RX7 yX7_find yX7_find ∈ jm_G := jm_memP (List.mem_of_getElem? (i := 18) (by decide +kernel)) (by decide +kernel)
theorem jm_m_7065 : jm_mok (7065, md_X7_find, 1, 0) := ⟨by decide, wd_323, wd_317, rfl, by decide +kernel, ⟨by decide, by decide, by decide +kernel⟩, by decide, by decide, fun _ => wd_324, fun h => absurd h (by decide), fun _ => ⟨wd_325, by decide, rfl⟩, fun _ => wd_326, fun h => absurd h (by decide)⟩
theorem wd_327 : Cond.code yX7_well cX7_well 2 (some .int) ∈ jm_G := jm_memG (List.mem_of_getElem? (i := 805) (by decide +kernel)) (by decide +kernel)
theorem wd_328 : Cond.methodLink RX7 69 yX7_well ∈ jm_G := jm_memG (List.mem_of_getElem? (i := 802) (by decide +kernel)) (by decide +kernel)
theorem wd_329 : Cond.instanceMethod yX7_well ∈ jm_G := jm_memG (List.mem_of_getElem? (i := 804) (by decide +kernel)) (by decide +kernel)
theorem wd_330 : Cond.selects RX7 yX7_well yX7_well ∈ jm_G := jm_memP (List.mem_of_getElem? (i := 19) (by decide +kernel)) (by decide +kernel)
theorem jm_m_7069 : jm_mok (7069, md_X7_well, 1, 0) := ⟨by decide, wd_327, wd_317, rfl, by decide +kernel, ⟨by decide, by decide, by decide +kernel⟩, by decide, by decide, fun _ => wd_328, fun h => absurd h (by decide), fun _ => ⟨wd_329, by decide, rfl⟩, fun _ => wd_330, fun h => absurd h (by decide)⟩
theorem wd_331 : Cond.code yX7_asLane cX7_asLane 2 (some .int) ∈ jm_G := jm_memG (List.mem_of_getElem? (i := 812) (by decide +kernel)) (by decide +kernel)
theorem wd_332 : Cond.methodLink RX7 72 yX7_asLane ∈ jm_G := jm_memG (List.mem_of_getElem? (i := 810) (by decide +kernel)) (by decide +kernel)
theorem wd_333 : Cond.static yX7_asLane ∈ jm_G := jm_memG (List.mem_of_getElem? (i := 811) (by decide +kernel)) (by decide +kernel)
theorem jm_m_7072 : jm_mok (7072, md_X7_asLane, 2, 1) := ⟨by decide, wd_331, wd_317, rfl, by decide +kernel, ⟨by decide, by decide, by decide +kernel⟩, by decide, by decide, fun _ => wd_332, fun _ => wd_333, fun h => absurd h (by decide), fun h => absurd h (by decide), fun h => absurd h (by decide)⟩
theorem wd_334 : Cond.code yX7_isLetter cX7_isLetter 2 (some .boolean) ∈ jm_G := jm_memG (List.mem_of_getElem? (i := 850) (by decide +kernel)) (by decide +kernel)
theorem wd_335 : Cond.methodLink RX7 105 yX7_isLetter ∈ jm_G := jm_memG (List.mem_of_getElem? (i := 847) (by decide +kernel)) (by decide +kernel)
theorem wd_336 : Cond.instanceMethod yX7_isLetter ∈ jm_G := jm_memG (List.mem_of_getElem? (i := 849) (by decide +kernel)) (by decide +kernel)
theorem wd_337 : Cond.selects RX7 yX7_isLetter yX7_isLetter ∈ jm_G := jm_memP (List.mem_of_getElem? (i := 23) (by decide +kernel)) (by decide +kernel)
theorem jm_m_7105 : jm_mok (7105, md_X7_isLetter, 1, 0) := ⟨by decide, wd_334, wd_317, rfl, by decide +kernel, ⟨by decide, by decide, by decide +kernel⟩, by decide, by decide, fun _ => wd_335, fun h => absurd h (by decide), fun _ => ⟨wd_336, by decide, rfl⟩, fun _ => wd_337, fun h => absurd h (by decide)⟩
theorem wd_338 : Cond.code yX7_faults cX7_faults 2 (some .boolean) ∈ jm_G := jm_memG (List.mem_of_getElem? (i := 854) (by decide +kernel)) (by decide +kernel)
theorem wd_339 : Cond.methodLink RX7 108 yX7_faults ∈ jm_G := jm_memG (List.mem_of_getElem? (i := 851) (by decide +kernel)) (by decide +kernel)
theorem wd_340 : Cond.instanceMethod yX7_faults ∈ jm_G := jm_memG (List.mem_of_getElem? (i := 853) (by decide +kernel)) (by decide +kernel)
theorem wd_341 : Cond.selects RX7 yX7_faults yX7_faults ∈ jm_G := jm_memP (List.mem_of_getElem? (i := 24) (by decide +kernel)) (by decide +kernel)
theorem jm_m_7108 : jm_mok (7108, md_X7_faults, 1, 0) := ⟨by decide, wd_338, wd_317, rfl, by decide +kernel, ⟨by decide, by decide, by decide +kernel⟩, by decide, by decide, fun _ => wd_339, fun h => absurd h (by decide), fun _ => ⟨wd_340, by decide, rfl⟩, fun _ => wd_341, fun h => absurd h (by decide)⟩
theorem wd_342 : Cond.code yX7_nextToken cX7_nextToken 1 none ∈ jm_G := jm_memG (List.mem_of_getElem? (i := 838) (by decide +kernel)) (by decide +kernel)
theorem wd_343 : Cond.methodLink RX7 111 yX7_nextToken ∈ jm_G := jm_memG (List.mem_of_getElem? (i := 835) (by decide +kernel)) (by decide +kernel)
theorem wd_344 : Cond.instanceMethod yX7_nextToken ∈ jm_G := jm_memG (List.mem_of_getElem? (i := 837) (by decide +kernel)) (by decide +kernel)
theorem wd_345 : Cond.selects RX7 yX7_nextToken yX7_nextToken ∈ jm_G := jm_memP (List.mem_of_getElem? (i := 21) (by decide +kernel)) (by decide +kernel)
theorem jm_m_7111 : jm_mok (7111, md_X7_nextToken, 0, 0) := ⟨by decide, wd_342, wd_317, rfl, by decide +kernel, ⟨by decide, by decide, by decide +kernel⟩, by decide, by decide, fun _ => wd_343, fun h => absurd h (by decide), fun _ => ⟨wd_344, by decide, rfl⟩, fun _ => wd_345, fun h => absurd h (by decide)⟩
theorem wd_346 : Cond.code yX7_takes cX7_takes 2 (some .boolean) ∈ jm_G := jm_memG (List.mem_of_getElem? (i := 846) (by decide +kernel)) (by decide +kernel)
theorem wd_347 : Cond.methodLink RX7 114 yX7_takes ∈ jm_G := jm_memG (List.mem_of_getElem? (i := 843) (by decide +kernel)) (by decide +kernel)
theorem wd_348 : Cond.instanceMethod yX7_takes ∈ jm_G := jm_memG (List.mem_of_getElem? (i := 845) (by decide +kernel)) (by decide +kernel)
theorem wd_349 : Cond.selects RX7 yX7_takes yX7_takes ∈ jm_G := jm_memP (List.mem_of_getElem? (i := 22) (by decide +kernel)) (by decide +kernel)
theorem jm_m_7114 : jm_mok (7114, md_X7_takes, 1, 0) := ⟨by decide, wd_346, wd_317, rfl, by decide +kernel, ⟨by decide, by decide, by decide +kernel⟩, by decide, by decide, fun _ => wd_347, fun h => absurd h (by decide), fun _ => ⟨wd_348, by decide, rfl⟩, fun _ => wd_349, fun h => absurd h (by decide)⟩
theorem wd_350 : Cond.code yX7_takesNumber cX7_takesNumber 5 (some .boolean) ∈ jm_G := jm_memG (List.mem_of_getElem? (i := 858) (by decide +kernel)) (by decide +kernel)
theorem wd_351 : Cond.methodLink RX7 117 yX7_takesNumber ∈ jm_G := jm_memG (List.mem_of_getElem? (i := 855) (by decide +kernel)) (by decide +kernel)
theorem wd_352 : Cond.instanceMethod yX7_takesNumber ∈ jm_G := jm_memG (List.mem_of_getElem? (i := 857) (by decide +kernel)) (by decide +kernel)
theorem wd_353 : Cond.selects RX7 yX7_takesNumber yX7_takesNumber ∈ jm_G := jm_memP (List.mem_of_getElem? (i := 25) (by decide +kernel)) (by decide +kernel)
theorem jm_m_7117 : jm_mok (7117, md_X7_takesNumber, 4, 0) := ⟨by decide, wd_350, wd_317, rfl, by decide +kernel, ⟨by decide, by decide, by decide +kernel⟩, by decide, by decide, fun _ => wd_351, fun h => absurd h (by decide), fun _ => ⟨wd_352, by decide, rfl⟩, fun _ => wd_353, fun h => absurd h (by decide)⟩
theorem wd_354 : Cond.code yX7_readBoat cX7_readBoat 4 (some .boolean) ∈ jm_G := jm_memG (List.mem_of_getElem? (i := 862) (by decide +kernel)) (by decide +kernel)
theorem wd_355 : Cond.methodLink RX7 121 yX7_readBoat ∈ jm_G := jm_memG (List.mem_of_getElem? (i := 859) (by decide +kernel)) (by decide +kernel)
theorem wd_356 : Cond.instanceMethod yX7_readBoat ∈ jm_G := jm_memG (List.mem_of_getElem? (i := 861) (by decide +kernel)) (by decide +kernel)
theorem wd_357 : Cond.selects RX7 yX7_readBoat yX7_readBoat ∈ jm_G := jm_memP (List.mem_of_getElem? (i := 26) (by decide +kernel)) (by decide +kernel)
theorem jm_m_7121 : jm_mok (7121, md_X7_readBoat, 1, 0) := ⟨by decide, wd_354, wd_317, rfl, by decide +kernel, ⟨by decide, by decide, by decide +kernel⟩, by decide, by decide, fun _ => wd_355, fun h => absurd h (by decide), fun _ => ⟨wd_356, by decide, rfl⟩, fun _ => wd_357, fun h => absurd h (by decide)⟩
theorem wd_358 : Cond.code yX7_readCell cX7_readCell 2 (some .boolean) ∈ jm_G := jm_memG (List.mem_of_getElem? (i := 866) (by decide +kernel)) (by decide +kernel)
theorem wd_359 : Cond.methodLink RX7 124 yX7_readCell ∈ jm_G := jm_memG (List.mem_of_getElem? (i := 863) (by decide +kernel)) (by decide +kernel)
theorem wd_360 : Cond.instanceMethod yX7_readCell ∈ jm_G := jm_memG (List.mem_of_getElem? (i := 865) (by decide +kernel)) (by decide +kernel)
theorem wd_361 : Cond.selects RX7 yX7_readCell yX7_readCell ∈ jm_G := jm_memP (List.mem_of_getElem? (i := 27) (by decide +kernel)) (by decide +kernel)
theorem jm_m_7124 : jm_mok (7124, md_X7_readCell, 0, 0) := ⟨by decide, wd_358, wd_317, rfl, by decide +kernel, ⟨by decide, by decide, by decide +kernel⟩, by decide, by decide, fun _ => wd_359, fun h => absurd h (by decide), fun _ => ⟨wd_360, by decide, rfl⟩, fun _ => wd_361, fun h => absurd h (by decide)⟩
theorem wd_362 : Cond.code yX7_readIsle cX7_readIsle 3 (some .boolean) ∈ jm_G := jm_memG (List.mem_of_getElem? (i := 834) (by decide +kernel)) (by decide +kernel)
theorem wd_363 : Cond.methodLink RX7 128 yX7_readIsle ∈ jm_G := jm_memG (List.mem_of_getElem? (i := 831) (by decide +kernel)) (by decide +kernel)
theorem wd_364 : Cond.instanceMethod yX7_readIsle ∈ jm_G := jm_memG (List.mem_of_getElem? (i := 833) (by decide +kernel)) (by decide +kernel)
theorem wd_365 : Cond.selects RX7 yX7_readIsle yX7_readIsle ∈ jm_G := jm_memP (List.mem_of_getElem? (i := 20) (by decide +kernel)) (by decide +kernel)
theorem jm_m_7128 : jm_mok (7128, md_X7_readIsle, 0, 0) := ⟨by decide, wd_362, wd_317, rfl, by decide +kernel, ⟨by decide, by decide, by decide +kernel⟩, by decide, by decide, fun _ => wd_363, fun h => absurd h (by decide), fun _ => ⟨wd_364, by decide, rfl⟩, fun _ => wd_365, fun h => absurd h (by decide)⟩
theorem wd_366 : Cond.code yX7_waterIn cX7_waterIn 3 (some .int) ∈ jm_G := jm_memG (List.mem_of_getElem? (i := 904) (by decide +kernel)) (by decide +kernel)
theorem wd_367 : Cond.methodLink RX7 142 yX7_waterIn ∈ jm_G := jm_memG (List.mem_of_getElem? (i := 901) (by decide +kernel)) (by decide +kernel)
theorem wd_368 : Cond.instanceMethod yX7_waterIn ∈ jm_G := jm_memG (List.mem_of_getElem? (i := 903) (by decide +kernel)) (by decide +kernel)
theorem wd_369 : Cond.selects RX7 yX7_waterIn yX7_waterIn ∈ jm_G := jm_memP (List.mem_of_getElem? (i := 32) (by decide +kernel)) (by decide +kernel)
theorem jm_m_7142 : jm_mok (7142, md_X7_waterIn, 1, 0) := ⟨by decide, wd_366, wd_317, rfl, by decide +kernel, ⟨by decide, by decide, by decide +kernel⟩, by decide, by decide, fun _ => wd_367, fun h => absurd h (by decide), fun _ => ⟨wd_368, by decide, rfl⟩, fun _ => wd_369, fun h => absurd h (by decide)⟩
theorem wd_370 : Cond.code yX7_dryIn cX7_dryIn 4 (some .int) ∈ jm_G := jm_memG (List.mem_of_getElem? (i := 900) (by decide +kernel)) (by decide +kernel)
theorem wd_371 : Cond.methodLink RX7 145 yX7_dryIn ∈ jm_G := jm_memG (List.mem_of_getElem? (i := 897) (by decide +kernel)) (by decide +kernel)
theorem wd_372 : Cond.instanceMethod yX7_dryIn ∈ jm_G := jm_memG (List.mem_of_getElem? (i := 899) (by decide +kernel)) (by decide +kernel)
theorem wd_373 : Cond.selects RX7 yX7_dryIn yX7_dryIn ∈ jm_G := jm_memP (List.mem_of_getElem? (i := 31) (by decide +kernel)) (by decide +kernel)
theorem jm_m_7145 : jm_mok (7145, md_X7_dryIn, 1, 0) := ⟨by decide, wd_370, wd_317, rfl, by decide +kernel, ⟨by decide, by decide, by decide +kernel⟩, by decide, by decide, fun _ => wd_371, fun h => absurd h (by decide), fun _ => ⟨wd_372, by decide, rfl⟩, fun _ => wd_373, fun h => absurd h (by decide)⟩
theorem wd_374 : Cond.code yX7_has cX7_has 2 (some .boolean) ∈ jm_G := jm_memG (List.mem_of_getElem? (i := 892) (by decide +kernel)) (by decide +kernel)
theorem wd_375 : Cond.methodLink RX7 148 yX7_has ∈ jm_G := jm_memG (List.mem_of_getElem? (i := 890) (by decide +kernel)) (by decide +kernel)
theorem wd_376 : Cond.static yX7_has ∈ jm_G := jm_memG (List.mem_of_getElem? (i := 891) (by decide +kernel)) (by decide +kernel)
theorem jm_m_7148 : jm_mok (7148, md_X7_has, 2, 1) := ⟨by decide, wd_374, wd_317, rfl, by decide +kernel, ⟨by decide, by decide, by decide +kernel⟩, by decide, by decide, fun _ => wd_375, fun _ => wd_376, fun h => absurd h (by decide), fun h => absurd h (by decide), fun h => absurd h (by decide)⟩
theorem wd_377 : Cond.code yX7_wayOf cX7_wayOf 5 (some .int) ∈ jm_G := jm_memG (List.mem_of_getElem? (i := 896) (by decide +kernel)) (by decide +kernel)
theorem wd_378 : Cond.methodLink RX7 152 yX7_wayOf ∈ jm_G := jm_memG (List.mem_of_getElem? (i := 893) (by decide +kernel)) (by decide +kernel)
theorem wd_379 : Cond.instanceMethod yX7_wayOf ∈ jm_G := jm_memG (List.mem_of_getElem? (i := 895) (by decide +kernel)) (by decide +kernel)
theorem wd_380 : Cond.selects RX7 yX7_wayOf yX7_wayOf ∈ jm_G := jm_memP (List.mem_of_getElem? (i := 30) (by decide +kernel)) (by decide +kernel)
theorem jm_m_7152 : jm_mok (7152, md_X7_wayOf, 1, 0) := ⟨by decide, wd_377, wd_317, rfl, by decide +kernel, ⟨by decide, by decide, by decide +kernel⟩, by decide, by decide, fun _ => wd_378, fun h => absurd h (by decide), fun _ => ⟨wd_379, by decide, rfl⟩, fun _ => wd_380, fun h => absurd h (by decide)⟩
theorem wd_381 : Cond.code yX7_thereSet cX7_thereSet 3 (some .int) ∈ jm_G := jm_memG (List.mem_of_getElem? (i := 908) (by decide +kernel)) (by decide +kernel)
theorem wd_382 : Cond.methodLink RX7 155 yX7_thereSet ∈ jm_G := jm_memG (List.mem_of_getElem? (i := 905) (by decide +kernel)) (by decide +kernel)
theorem wd_383 : Cond.instanceMethod yX7_thereSet ∈ jm_G := jm_memG (List.mem_of_getElem? (i := 907) (by decide +kernel)) (by decide +kernel)
theorem wd_384 : Cond.selects RX7 yX7_thereSet yX7_thereSet ∈ jm_G := jm_memP (List.mem_of_getElem? (i := 33) (by decide +kernel)) (by decide +kernel)
theorem jm_m_7155 : jm_mok (7155, md_X7_thereSet, 0, 0) := ⟨by decide, wd_381, wd_317, rfl, by decide +kernel, ⟨by decide, by decide, by decide +kernel⟩, by decide, by decide, fun _ => wd_382, fun h => absurd h (by decide), fun _ => ⟨wd_383, by decide, rfl⟩, fun _ => wd_384, fun h => absurd h (by decide)⟩
theorem wd_385 : Cond.code yX7_leastOf cX7_leastOf 2 (some .int) ∈ jm_G := jm_memG (List.mem_of_getElem? (i := 911) (by decide +kernel)) (by decide +kernel)
theorem wd_386 : Cond.methodLink RX7 159 yX7_leastOf ∈ jm_G := jm_memG (List.mem_of_getElem? (i := 909) (by decide +kernel)) (by decide +kernel)
theorem wd_387 : Cond.static yX7_leastOf ∈ jm_G := jm_memG (List.mem_of_getElem? (i := 910) (by decide +kernel)) (by decide +kernel)
theorem jm_m_7159 : jm_mok (7159, md_X7_leastOf, 1, 1) := ⟨by decide, wd_385, wd_317, rfl, by decide +kernel, ⟨by decide, by decide, by decide +kernel⟩, by decide, by decide, fun _ => wd_386, fun _ => wd_387, fun h => absurd h (by decide), fun h => absurd h (by decide), fun h => absurd h (by decide)⟩
theorem wd_388 : Cond.code yX7_note cX7_note 2 none ∈ jm_G := jm_memG (List.mem_of_getElem? (i := 885) (by decide +kernel)) (by decide +kernel)
theorem wd_389 : Cond.methodLink RX7 166 yX7_note ∈ jm_G := jm_memG (List.mem_of_getElem? (i := 882) (by decide +kernel)) (by decide +kernel)
theorem wd_390 : Cond.instanceMethod yX7_note ∈ jm_G := jm_memG (List.mem_of_getElem? (i := 884) (by decide +kernel)) (by decide +kernel)
theorem wd_391 : Cond.selects RX7 yX7_note yX7_note ∈ jm_G := jm_memP (List.mem_of_getElem? (i := 28) (by decide +kernel)) (by decide +kernel)
theorem jm_m_7166 : jm_mok (7166, md_X7_note, 0, 0) := ⟨by decide, wd_388, wd_317, rfl, by decide +kernel, ⟨by decide, by decide, by decide +kernel⟩, by decide, by decide, fun _ => wd_389, fun h => absurd h (by decide), fun _ => ⟨wd_390, by decide, rfl⟩, fun _ => wd_391, fun h => absurd h (by decide)⟩
theorem wd_392 : Cond.code yX7_oneHour cX7_oneHour 3 none ∈ jm_G := jm_memG (List.mem_of_getElem? (i := 889) (by decide +kernel)) (by decide +kernel)
theorem wd_393 : Cond.methodLink RX7 169 yX7_oneHour ∈ jm_G := jm_memG (List.mem_of_getElem? (i := 886) (by decide +kernel)) (by decide +kernel)
theorem wd_394 : Cond.instanceMethod yX7_oneHour ∈ jm_G := jm_memG (List.mem_of_getElem? (i := 888) (by decide +kernel)) (by decide +kernel)
theorem wd_395 : Cond.selects RX7 yX7_oneHour yX7_oneHour ∈ jm_G := jm_memP (List.mem_of_getElem? (i := 29) (by decide +kernel)) (by decide +kernel)
theorem jm_m_7169 : jm_mok (7169, md_X7_oneHour, 0, 0) := ⟨by decide, wd_392, wd_317, rfl, by decide +kernel, ⟨by decide, by decide, by decide +kernel⟩, by decide, by decide, fun _ => wd_393, fun h => absurd h (by decide), fun _ => ⟨wd_394, by decide, rfl⟩, fun _ => wd_395, fun h => absurd h (by decide)⟩
theorem wd_396 : Cond.code yX7_ownerNow cX7_ownerNow 1 (some .int) ∈ jm_G := jm_memG (List.mem_of_getElem? (i := 915) (by decide +kernel)) (by decide +kernel)
theorem wd_397 : Cond.methodLink RX7 172 yX7_ownerNow ∈ jm_G := jm_memG (List.mem_of_getElem? (i := 912) (by decide +kernel)) (by decide +kernel)
theorem wd_398 : Cond.instanceMethod yX7_ownerNow ∈ jm_G := jm_memG (List.mem_of_getElem? (i := 914) (by decide +kernel)) (by decide +kernel)
theorem wd_399 : Cond.selects RX7 yX7_ownerNow yX7_ownerNow ∈ jm_G := jm_memP (List.mem_of_getElem? (i := 34) (by decide +kernel)) (by decide +kernel)
theorem jm_m_7172 : jm_mok (7172, md_X7_ownerNow, 0, 0) := ⟨by decide, wd_396, wd_317, rfl, by decide +kernel, ⟨by decide, by decide, by decide +kernel⟩, by decide, by decide, fun _ => wd_397, fun h => absurd h (by decide), fun _ => ⟨wd_398, by decide, rfl⟩, fun _ => wd_399, fun h => absurd h (by decide)⟩
theorem wd_400 : Cond.code yX7_isBoat cX7_isBoat 2 (some .boolean) ∈ jm_G := jm_memG (List.mem_of_getElem? (i := 924) (by decide +kernel)) (by decide +kernel)
theorem wd_401 : Cond.methodLink RX7 175 yX7_isBoat ∈ jm_G := jm_memG (List.mem_of_getElem? (i := 921) (by decide +kernel)) (by decide +kernel)
theorem wd_402 : Cond.instanceMethod yX7_isBoat ∈ jm_G := jm_memG (List.mem_of_getElem? (i := 923) (by decide +kernel)) (by decide +kernel)
theorem wd_403 : Cond.selects RX7 yX7_isBoat yX7_isBoat ∈ jm_G := jm_memP (List.mem_of_getElem? (i := 35) (by decide +kernel)) (by decide +kernel)
theorem jm_m_7175 : jm_mok (7175, md_X7_isBoat, 1, 0) := ⟨by decide, wd_400, wd_317, rfl, by decide +kernel, ⟨by decide, by decide, by decide +kernel⟩, by decide, by decide, fun _ => wd_401, fun h => absurd h (by decide), fun _ => ⟨wd_402, by decide, rfl⟩, fun _ => wd_403, fun h => absurd h (by decide)⟩
theorem wd_404 : Cond.code yX7_isCell cX7_isCell 2 (some .boolean) ∈ jm_G := jm_memG (List.mem_of_getElem? (i := 937) (by decide +kernel)) (by decide +kernel)
theorem wd_405 : Cond.methodLink RX7 180 yX7_isCell ∈ jm_G := jm_memG (List.mem_of_getElem? (i := 934) (by decide +kernel)) (by decide +kernel)
theorem wd_406 : Cond.instanceMethod yX7_isCell ∈ jm_G := jm_memG (List.mem_of_getElem? (i := 936) (by decide +kernel)) (by decide +kernel)
theorem wd_407 : Cond.selects RX7 yX7_isCell yX7_isCell ∈ jm_G := jm_memP (List.mem_of_getElem? (i := 36) (by decide +kernel)) (by decide +kernel)
theorem jm_m_7180 : jm_mok (7180, md_X7_isCell, 1, 0) := ⟨by decide, wd_404, wd_317, rfl, by decide +kernel, ⟨by decide, by decide, by decide +kernel⟩, by decide, by decide, fun _ => wd_405, fun h => absurd h (by decide), fun _ => ⟨wd_406, by decide, rfl⟩, fun _ => wd_407, fun h => absurd h (by decide)⟩
theorem wd_408 : Cond.code yX7_goOn cX7_goOn 3 none ∈ jm_G := jm_memG (List.mem_of_getElem? (i := 970) (by decide +kernel)) (by decide +kernel)
theorem wd_409 : Cond.methodLink RX7 191 yX7_goOn ∈ jm_G := jm_memG (List.mem_of_getElem? (i := 967) (by decide +kernel)) (by decide +kernel)
theorem wd_410 : Cond.instanceMethod yX7_goOn ∈ jm_G := jm_memG (List.mem_of_getElem? (i := 969) (by decide +kernel)) (by decide +kernel)
theorem wd_411 : Cond.selects RX7 yX7_goOn yX7_goOn ∈ jm_G := jm_memP (List.mem_of_getElem? (i := 38) (by decide +kernel)) (by decide +kernel)
theorem jm_m_7191 : jm_mok (7191, md_X7_goOn, 1, 0) := ⟨by decide, wd_408, wd_317, rfl, by decide +kernel, ⟨by decide, by decide, by decide +kernel⟩, by decide, by decide, fun _ => wd_409, fun h => absurd h (by decide), fun _ => ⟨wd_410, by decide, rfl⟩, fun _ => wd_411, fun h => absurd h (by decide)⟩
theorem wd_412 : Cond.code yX7_takeBack cX7_takeBack 2 none ∈ jm_G := jm_memG (List.mem_of_getElem? (i := 974) (by decide +kernel)) (by decide +kernel)
theorem wd_413 : Cond.methodLink RX7 195 yX7_takeBack ∈ jm_G := jm_memG (List.mem_of_getElem? (i := 971) (by decide +kernel)) (by decide +kernel)
theorem wd_414 : Cond.instanceMethod yX7_takeBack ∈ jm_G := jm_memG (List.mem_of_getElem? (i := 973) (by decide +kernel)) (by decide +kernel)
theorem wd_415 : Cond.selects RX7 yX7_takeBack yX7_takeBack ∈ jm_G := jm_memP (List.mem_of_getElem? (i := 39) (by decide +kernel)) (by decide +kernel)
theorem jm_m_7195 : jm_mok (7195, md_X7_takeBack, 0, 0) := ⟨by decide, wd_412, wd_317, rfl, by decide +kernel, ⟨by decide, by decide, by decide +kernel⟩, by decide, by decide, fun _ => wd_413, fun h => absurd h (by decide), fun _ => ⟨wd_414, by decide, rfl⟩, fun _ => wd_415, fun h => absurd h (by decide)⟩
theorem wd_416 : Cond.code yX7_putAside cX7_putAside 2 none ∈ jm_G := jm_memG (List.mem_of_getElem? (i := 966) (by decide +kernel)) (by decide +kernel)
theorem wd_417 : Cond.methodLink RX7 200 yX7_putAside ∈ jm_G := jm_memG (List.mem_of_getElem? (i := 963) (by decide +kernel)) (by decide +kernel)
theorem wd_418 : Cond.instanceMethod yX7_putAside ∈ jm_G := jm_memG (List.mem_of_getElem? (i := 965) (by decide +kernel)) (by decide +kernel)
theorem wd_419 : Cond.selects RX7 yX7_putAside yX7_putAside ∈ jm_G := jm_memP (List.mem_of_getElem? (i := 37) (by decide +kernel)) (by decide +kernel)
theorem jm_m_7200 : jm_mok (7200, md_X7_putAside, 0, 0) := ⟨by decide, wd_416, wd_317, rfl, by decide +kernel, ⟨by decide, by decide, by decide +kernel⟩, by decide, by decide, fun _ => wd_417, fun h => absurd h (by decide), fun _ => ⟨wd_418, by decide, rfl⟩, fun _ => wd_419, fun h => absurd h (by decide)⟩
theorem wd_420 : Cond.code yX7_ownerBy cX7_ownerBy 3 (some .int) ∈ jm_G := jm_memG (List.mem_of_getElem? (i := 982) (by decide +kernel)) (by decide +kernel)
theorem wd_421 : Cond.methodLink RX7 203 yX7_ownerBy ∈ jm_G := jm_memG (List.mem_of_getElem? (i := 979) (by decide +kernel)) (by decide +kernel)
theorem wd_422 : Cond.instanceMethod yX7_ownerBy ∈ jm_G := jm_memG (List.mem_of_getElem? (i := 981) (by decide +kernel)) (by decide +kernel)
theorem wd_423 : Cond.selects RX7 yX7_ownerBy yX7_ownerBy ∈ jm_G := jm_memP (List.mem_of_getElem? (i := 40) (by decide +kernel)) (by decide +kernel)
theorem jm_m_7203 : jm_mok (7203, md_X7_ownerBy, 1, 0) := ⟨by decide, wd_420, wd_317, rfl, by decide +kernel, ⟨by decide, by decide, by decide +kernel⟩, by decide, by decide, fun _ => wd_421, fun h => absurd h (by decide), fun _ => ⟨wd_422, by decide, rfl⟩, fun _ => wd_423, fun h => absurd h (by decide)⟩
theorem wd_424 : Cond.code yX7_openIn cX7_openIn 4 (some .int) ∈ jm_G := jm_memG (List.mem_of_getElem? (i := 1002) (by decide +kernel)) (by decide +kernel)
theorem wd_425 : Cond.methodLink RX7 206 yX7_openIn ∈ jm_G := jm_memG (List.mem_of_getElem? (i := 999) (by decide +kernel)) (by decide +kernel)
theorem wd_426 : Cond.instanceMethod yX7_openIn ∈ jm_G := jm_memG (List.mem_of_getElem? (i := 1001) (by decide +kernel)) (by decide +kernel)
theorem wd_427 : Cond.selects RX7 yX7_openIn yX7_openIn ∈ jm_G := jm_memP (List.mem_of_getElem? (i := 41) (by decide +kernel)) (by decide +kernel)
theorem jm_m_7206 : jm_mok (7206, md_X7_openIn, 1, 0) := ⟨by decide, wd_424, wd_317, rfl, by decide +kernel, ⟨by decide, by decide, by decide +kernel⟩, by decide, by decide, fun _ => wd_425, fun h => absurd h (by decide), fun _ => ⟨wd_426, by decide, rfl⟩, fun _ => wd_427, fun h => absurd h (by decide)⟩
theorem wd_428 : Cond.code yX7_isWhat cX7_isWhat 1 (some .boolean) ∈ jm_G := jm_memG (List.mem_of_getElem? (i := 1021) (by decide +kernel)) (by decide +kernel)
theorem wd_429 : Cond.methodLink RX7 209 yX7_isWhat ∈ jm_G := jm_memG (List.mem_of_getElem? (i := 1019) (by decide +kernel)) (by decide +kernel)
theorem wd_430 : Cond.static yX7_isWhat ∈ jm_G := jm_memG (List.mem_of_getElem? (i := 1020) (by decide +kernel)) (by decide +kernel)
theorem jm_m_7209 : jm_mok (7209, md_X7_isWhat, 1, 1) := ⟨by decide, wd_428, wd_317, rfl, by decide +kernel, ⟨by decide, by decide, by decide +kernel⟩, by decide, by decide, fun _ => wd_429, fun _ => wd_430, fun h => absurd h (by decide), fun h => absurd h (by decide), fun h => absurd h (by decide)⟩
theorem wd_431 : Cond.code yX7_ones cX7_ones 3 (some .int) ∈ jm_G := jm_memG (List.mem_of_getElem? (i := 1024) (by decide +kernel)) (by decide +kernel)
theorem wd_432 : Cond.methodLink RX7 212 yX7_ones ∈ jm_G := jm_memG (List.mem_of_getElem? (i := 1022) (by decide +kernel)) (by decide +kernel)
theorem wd_433 : Cond.static yX7_ones ∈ jm_G := jm_memG (List.mem_of_getElem? (i := 1023) (by decide +kernel)) (by decide +kernel)
theorem jm_m_7212 : jm_mok (7212, md_X7_ones, 1, 1) := ⟨by decide, wd_431, wd_317, rfl, by decide +kernel, ⟨by decide, by decide, by decide +kernel⟩, by decide, by decide, fun _ => wd_432, fun _ => wd_433, fun h => absurd h (by decide), fun h => absurd h (by decide), fun h => absurd h (by decide)⟩
theorem wd_434 : Cond.code yX7_lacks cX7_lacks 4 (some .int) ∈ jm_G := jm_memG (List.mem_of_getElem? (i := 1041) (by decide +kernel)) (by decide +kernel)
theorem wd_435 : Cond.methodLink RX7 217 yX7_lacks ∈ jm_G := jm_memG (List.mem_of_getElem? (i := 1038) (by decide +kernel)) (by decide +kernel)
theorem wd_436 : Cond.instanceMethod yX7_lacks ∈ jm_G := jm_memG (List.mem_of_getElem? (i := 1040) (by decide +kernel)) (by decide +kernel)
theorem wd_437 : Cond.selects RX7 yX7_lacks yX7_lacks ∈ jm_G := jm_memP (List.mem_of_getElem? (i := 42) (by decide +kernel)) (by decide +kernel)
theorem jm_m_7217 : jm_mok (7217, md_X7_lacks, 3, 0) := ⟨by decide, wd_434, wd_317, rfl, by decide +kernel, ⟨by decide, by decide, by decide +kernel⟩, by decide, by decide, fun _ => wd_435, fun h => absurd h (by decide), fun _ => ⟨wd_436, by decide, rfl⟩, fun _ => wd_437, fun h => absurd h (by decide)⟩
theorem wd_438 : Cond.code yX7_isSo cX7_isSo 5 (some .boolean) ∈ jm_G := jm_memG (List.mem_of_getElem? (i := 1045) (by decide +kernel)) (by decide +kernel)
theorem wd_439 : Cond.methodLink RX7 221 yX7_isSo ∈ jm_G := jm_memG (List.mem_of_getElem? (i := 1042) (by decide +kernel)) (by decide +kernel)
theorem wd_440 : Cond.instanceMethod yX7_isSo ∈ jm_G := jm_memG (List.mem_of_getElem? (i := 1044) (by decide +kernel)) (by decide +kernel)
theorem wd_441 : Cond.selects RX7 yX7_isSo yX7_isSo ∈ jm_G := jm_memP (List.mem_of_getElem? (i := 43) (by decide +kernel)) (by decide +kernel)
theorem jm_m_7221 : jm_mok (7221, md_X7_isSo, 2, 0) := ⟨by decide, wd_438, wd_317, rfl, by decide +kernel, ⟨by decide, by decide, by decide +kernel⟩, by decide, by decide, fun _ => wd_439, fun h => absurd h (by decide), fun _ => ⟨wd_440, by decide, rfl⟩, fun _ => wd_441, fun h => absurd h (by decide)⟩
theorem wd_442 : Cond.code yX7_allHeld cX7_allHeld 3 (some .int) ∈ jm_G := jm_memG (List.mem_of_getElem? (i := 1068) (by decide +kernel)) (by decide +kernel)
theorem wd_443 : Cond.methodLink RX7 230 yX7_allHeld ∈ jm_G := jm_memG (List.mem_of_getElem? (i := 1065) (by decide +kernel)) (by decide +kernel)
theorem wd_444 : Cond.instanceMethod yX7_allHeld ∈ jm_G := jm_memG (List.mem_of_getElem? (i := 1067) (by decide +kernel)) (by decide +kernel)
theorem wd_445 : Cond.selects RX7 yX7_allHeld yX7_allHeld ∈ jm_G := jm_memP (List.mem_of_getElem? (i := 44) (by decide +kernel)) (by decide +kernel)
theorem jm_m_7230 : jm_mok (7230, md_X7_allHeld, 0, 0) := ⟨by decide, wd_442, wd_317, rfl, by decide +kernel, ⟨by decide, by decide, by decide +kernel⟩, by decide, by decide, fun _ => wd_443, fun h => absurd h (by decide), fun _ => ⟨wd_444, by decide, rfl⟩, fun _ => wd_445, fun h => absurd h (by decide)⟩
theorem wd_446 : Cond.code yX7_isKind cX7_isKind 2 (some .boolean) ∈ jm_G := jm_memG (List.mem_of_getElem? (i := 1091) (by decide +kernel)) (by decide +kernel)
theorem wd_447 : Cond.methodLink RX7 241 yX7_isKind ∈ jm_G := jm_memG (List.mem_of_getElem? (i := 1089) (by decide +kernel)) (by decide +kernel)
theorem wd_448 : Cond.static yX7_isKind ∈ jm_G := jm_memG (List.mem_of_getElem? (i := 1090) (by decide +kernel)) (by decide +kernel)
theorem jm_m_7241 : jm_mok (7241, md_X7_isKind, 2, 1) := ⟨by decide, wd_446, wd_317, rfl, by decide +kernel, ⟨by decide, by decide, by decide +kernel⟩, by decide, by decide, fun _ => wd_447, fun _ => wd_448, fun h => absurd h (by decide), fun h => absurd h (by decide), fun h => absurd h (by decide)⟩
theorem wd_449 : Cond.code yX7_begin cX7_begin 2 none ∈ jm_G := jm_memG (List.mem_of_getElem? (i := 1103) (by decide +kernel)) (by decide +kernel)
theorem wd_450 : Cond.methodLink RX7 247 yX7_begin ∈ jm_G := jm_memG (List.mem_of_getElem? (i := 1100) (by decide +kernel)) (by decide +kernel)
theorem wd_451 : Cond.instanceMethod yX7_begin ∈ jm_G := jm_memG (List.mem_of_getElem? (i := 1102) (by decide +kernel)) (by decide +kernel)
theorem wd_452 : Cond.selects RX7 yX7_begin yX7_begin ∈ jm_G := jm_memP (List.mem_of_getElem? (i := 46) (by decide +kernel)) (by decide +kernel)
theorem jm_m_7247 : jm_mok (7247, md_X7_begin, 1, 0) := ⟨by decide, wd_449, wd_317, rfl, by decide +kernel, ⟨by decide, by decide, by decide +kernel⟩, by decide, by decide, fun _ => wd_450, fun h => absurd h (by decide), fun _ => ⟨wd_451, by decide, rfl⟩, fun _ => wd_452, fun h => absurd h (by decide)⟩
theorem wd_453 : Cond.code yX7_lent cX7_lent 3 (some .int) ∈ jm_G := jm_memG (List.mem_of_getElem? (i := 1111) (by decide +kernel)) (by decide +kernel)
theorem wd_454 : Cond.methodLink RX7 250 yX7_lent ∈ jm_G := jm_memG (List.mem_of_getElem? (i := 1108) (by decide +kernel)) (by decide +kernel)
theorem wd_455 : Cond.instanceMethod yX7_lent ∈ jm_G := jm_memG (List.mem_of_getElem? (i := 1110) (by decide +kernel)) (by decide +kernel)
theorem wd_456 : Cond.selects RX7 yX7_lent yX7_lent ∈ jm_G := jm_memP (List.mem_of_getElem? (i := 48) (by decide +kernel)) (by decide +kernel)
theorem jm_m_7250 : jm_mok (7250, md_X7_lent, 2, 0) := ⟨by decide, wd_453, wd_317, rfl, by decide +kernel, ⟨by decide, by decide, by decide +kernel⟩, by decide, by decide, fun _ => wd_454, fun h => absurd h (by decide), fun _ => ⟨wd_455, by decide, rfl⟩, fun _ => wd_456, fun h => absurd h (by decide)⟩
theorem wd_457 : Cond.code yX7_ferrySize cX7_ferrySize 2 (some .int) ∈ jm_G := jm_memG (List.mem_of_getElem? (i := 1127) (by decide +kernel)) (by decide +kernel)
theorem wd_458 : Cond.methodLink RX7 253 yX7_ferrySize ∈ jm_G := jm_memG (List.mem_of_getElem? (i := 1124) (by decide +kernel)) (by decide +kernel)
theorem wd_459 : Cond.instanceMethod yX7_ferrySize ∈ jm_G := jm_memG (List.mem_of_getElem? (i := 1126) (by decide +kernel)) (by decide +kernel)
theorem wd_460 : Cond.selects RX7 yX7_ferrySize yX7_ferrySize ∈ jm_G := jm_memP (List.mem_of_getElem? (i := 52) (by decide +kernel)) (by decide +kernel)
theorem jm_m_7253 : jm_mok (7253, md_X7_ferrySize, 1, 0) := ⟨by decide, wd_457, wd_317, rfl, by decide +kernel, ⟨by decide, by decide, by decide +kernel⟩, by decide, by decide, fun _ => wd_458, fun h => absurd h (by decide), fun _ => ⟨wd_459, by decide, rfl⟩, fun _ => wd_460, fun h => absurd h (by decide)⟩
theorem wd_461 : Cond.code yX7_sailMark cX7_sailMark 2 (some .int) ∈ jm_G := jm_memG (List.mem_of_getElem? (i := 1119) (by decide +kernel)) (by decide +kernel)
theorem wd_462 : Cond.methodLink RX7 256 yX7_sailMark ∈ jm_G := jm_memG (List.mem_of_getElem? (i := 1116) (by decide +kernel)) (by decide +kernel)
theorem wd_463 : Cond.instanceMethod yX7_sailMark ∈ jm_G := jm_memG (List.mem_of_getElem? (i := 1118) (by decide +kernel)) (by decide +kernel)
theorem wd_464 : Cond.selects RX7 yX7_sailMark yX7_sailMark ∈ jm_G := jm_memP (List.mem_of_getElem? (i := 50) (by decide +kernel)) (by decide +kernel)
theorem jm_m_7256 : jm_mok (7256, md_X7_sailMark, 1, 0) := ⟨by decide, wd_461, wd_317, rfl, by decide +kernel, ⟨by decide, by decide, by decide +kernel⟩, by decide, by decide, fun _ => wd_462, fun h => absurd h (by decide), fun _ => ⟨wd_463, by decide, rfl⟩, fun _ => wd_464, fun h => absurd h (by decide)⟩
theorem wd_465 : Cond.code yX7_sizeOfFerry cX7_sizeOfFerry 2 (some .int) ∈ jm_G := jm_memG (List.mem_of_getElem? (i := 1123) (by decide +kernel)) (by decide +kernel)
theorem wd_466 : Cond.methodLink RX7 259 yX7_sizeOfFerry ∈ jm_G := jm_memG (List.mem_of_getElem? (i := 1120) (by decide +kernel)) (by decide +kernel)
theorem wd_467 : Cond.instanceMethod yX7_sizeOfFerry ∈ jm_G := jm_memG (List.mem_of_getElem? (i := 1122) (by decide +kernel)) (by decide +kernel)
theorem wd_468 : Cond.selects RX7 yX7_sizeOfFerry yX7_sizeOfFerry ∈ jm_G := jm_memP (List.mem_of_getElem? (i := 51) (by decide +kernel)) (by decide +kernel)
theorem jm_m_7259 : jm_mok (7259, md_X7_sizeOfFerry, 1, 0) := ⟨by decide, wd_465, wd_317, rfl, by decide +kernel, ⟨by decide, by decide, by decide +kernel⟩, by decide, by decide, fun _ => wd_466, fun h => absurd h (by decide), fun _ => ⟨wd_467, by decide, rfl⟩, fun _ => wd_468, fun h => absurd h (by decide)⟩
theorem wd_469 : Cond.code yX7_markOf cX7_markOf 4 (some .int) ∈ jm_G := jm_memG (List.mem_of_getElem? (i := 1115) (by decide +kernel)) (by decide +kernel)
theorem wd_470 : Cond.methodLink RX7 262 yX7_markOf ∈ jm_G := jm_memG (List.mem_of_getElem? (i := 1112) (by decide +kernel)) (by decide +kernel)
theorem wd_471 : Cond.instanceMethod yX7_markOf ∈ jm_G := jm_memG (List.mem_of_getElem? (i := 1114) (by decide +kernel)) (by decide +kernel)
theorem wd_472 : Cond.selects RX7 yX7_markOf yX7_markOf ∈ jm_G := jm_memP (List.mem_of_getElem? (i := 49) (by decide +kernel)) (by decide +kernel)
theorem jm_m_7262 : jm_mok (7262, md_X7_markOf, 1, 0) := ⟨by decide, wd_469, wd_317, rfl, by decide +kernel, ⟨by decide, by decide, by decide +kernel⟩, by decide, by decide, fun _ => wd_470, fun h => absurd h (by decide), fun _ => ⟨wd_471, by decide, rfl⟩, fun _ => wd_472, fun h => absurd h (by decide)⟩
theorem wd_473 : Cond.code yX7_sailSize cX7_sailSize 3 (some .int) ∈ jm_G := jm_memG (List.mem_of_getElem? (i := 1107) (by decide +kernel)) (by decide +kernel)
theorem wd_474 : Cond.methodLink RX7 265 yX7_sailSize ∈ jm_G := jm_memG (List.mem_of_getElem? (i := 1104) (by decide +kernel)) (by decide +kernel)
theorem wd_475 : Cond.instanceMethod yX7_sailSize ∈ jm_G := jm_memG (List.mem_of_getElem? (i := 1106) (by decide +kernel)) (by decide +kernel)
theorem wd_476 : Cond.selects RX7 yX7_sailSize yX7_sailSize ∈ jm_G := jm_memP (List.mem_of_getElem? (i := 47) (by decide +kernel)) (by decide +kernel)
theorem jm_m_7265 : jm_mok (7265, md_X7_sailSize, 1, 0) := ⟨by decide, wd_473, wd_317, rfl, by decide +kernel, ⟨by decide, by decide, by decide +kernel⟩, by decide, by decide, fun _ => wd_474, fun h => absurd h (by decide), fun _ => ⟨wd_475, by decide, rfl⟩, fun _ => wd_476, fun h => absurd h (by decide)⟩
theorem wd_477 : Cond.code yX7_sizeOf cX7_sizeOf 3 (some .int) ∈ jm_G := jm_memG (List.mem_of_getElem? (i := 1099) (by decide +kernel)) (by decide +kernel)
theorem wd_478 : Cond.methodLink RX7 268 yX7_sizeOf ∈ jm_G := jm_memG (List.mem_of_getElem? (i := 1096) (by decide +kernel)) (by decide +kernel)
theorem wd_479 : Cond.instanceMethod yX7_sizeOf ∈ jm_G := jm_memG (List.mem_of_getElem? (i := 1098) (by decide +kernel)) (by decide +kernel)
theorem wd_480 : Cond.selects RX7 yX7_sizeOf yX7_sizeOf ∈ jm_G := jm_memP (List.mem_of_getElem? (i := 45) (by decide +kernel)) (by decide +kernel)
theorem jm_m_7268 : jm_mok (7268, md_X7_sizeOf, 1, 0) := ⟨by decide, wd_477, wd_317, rfl, by decide +kernel, ⟨by decide, by decide, by decide +kernel⟩, by decide, by decide, fun _ => wd_478, fun h => absurd h (by decide), fun _ => ⟨wd_479, by decide, rfl⟩, fun _ => wd_480, fun h => absurd h (by decide)⟩
theorem wd_481 : Cond.code yX6_init cX6_init 2 none ∈ jm_G := jm_memG (List.mem_of_getElem? (i := 16) (by decide +kernel)) (by decide +kernel)
theorem wd_482 : Cond.methodLink RL 9 yX6_init ∈ jm_G := jm_memG (List.mem_of_getElem? (i := 14) (by decide +kernel)) (by decide +kernel)
theorem wd_483 : Cond.instanceMethod yX6_init ∈ jm_G := jm_memG (List.mem_of_getElem? (i := 15) (by decide +kernel)) (by decide +kernel)
theorem jm_m_11009 : jm_mok (11009, md_X6_init, 0, 2) := ⟨by decide, wd_481, wd_53, rfl, by decide +kernel, ⟨by decide, by decide, by decide +kernel⟩, by decide, by decide, fun _ => wd_482, fun h => absurd h (by decide), fun _ => ⟨wd_483, by decide, rfl⟩, fun h => absurd h (by decide), fun _ => ⟨rfl, rfl⟩⟩
theorem wd_484 : Cond.code yX7_init cX7_init 2 none ∈ jm_G := jm_memG (List.mem_of_getElem? (i := 711) (by decide +kernel)) (by decide +kernel)
theorem wd_485 : Cond.methodLink RL 12 yX7_init ∈ jm_G := jm_memG (List.mem_of_getElem? (i := 709) (by decide +kernel)) (by decide +kernel)
theorem wd_486 : Cond.instanceMethod yX7_init ∈ jm_G := jm_memG (List.mem_of_getElem? (i := 710) (by decide +kernel)) (by decide +kernel)
theorem jm_m_11012 : jm_mok (11012, md_X7_init, 0, 2) := ⟨by decide, wd_484, wd_317, rfl, by decide +kernel, ⟨by decide, by decide, by decide +kernel⟩, by decide, by decide, fun _ => wd_485, fun h => absurd h (by decide), fun _ => ⟨wd_486, by decide, rfl⟩, fun h => absurd h (by decide), fun _ => ⟨rfl, rfl⟩⟩
theorem wd_487 : Cond.code yX6_row cX6_row 4 (some .int) ∈ jm_G := jm_memG (List.mem_of_getElem? (i := 219) (by decide +kernel)) (by decide +kernel)
theorem wd_488 : Cond.methodLink RL 13 yX6_row ∈ jm_G := jm_memG (List.mem_of_getElem? (i := 216) (by decide +kernel)) (by decide +kernel)
theorem wd_489 : Cond.instanceMethod yX6_row ∈ jm_G := jm_memG (List.mem_of_getElem? (i := 217) (by decide +kernel)) (by decide +kernel)
theorem wd_490 : Cond.selects RX6 yX6_row yX6_row ∈ jm_G := jm_memG (List.mem_of_getElem? (i := 218) (by decide +kernel)) (by decide +kernel)
theorem jm_m_11013 : jm_mok (11013, md_X6_row, 3, 0) := ⟨by decide, wd_487, wd_53, rfl, by decide +kernel, ⟨by decide, by decide, by decide +kernel⟩, by decide, by decide, fun _ => wd_488, fun h => absurd h (by decide), fun _ => ⟨wd_489, by decide, rfl⟩, fun _ => wd_490, fun h => absurd h (by decide)⟩
theorem wd_491 : Cond.code yX7_row cX7_row 5 (some .int) ∈ jm_G := jm_memG (List.mem_of_getElem? (i := 787) (by decide +kernel)) (by decide +kernel)
theorem wd_492 : Cond.methodLink RL 17 yX7_row ∈ jm_G := jm_memG (List.mem_of_getElem? (i := 784) (by decide +kernel)) (by decide +kernel)
theorem wd_493 : Cond.instanceMethod yX7_row ∈ jm_G := jm_memG (List.mem_of_getElem? (i := 785) (by decide +kernel)) (by decide +kernel)
theorem wd_494 : Cond.selects RX7 yX7_row yX7_row ∈ jm_G := jm_memG (List.mem_of_getElem? (i := 786) (by decide +kernel)) (by decide +kernel)
theorem jm_m_11017 : jm_mok (11017, md_X7_row, 3, 0) := ⟨by decide, wd_491, wd_317, rfl, by decide +kernel, ⟨by decide, by decide, by decide +kernel⟩, by decide, by decide, fun _ => wd_492, fun h => absurd h (by decide), fun _ => ⟨wd_493, by decide, rfl⟩, fun _ => wd_494, fun h => absurd h (by decide)⟩
theorem wd_495 : Cond.code yX6_set cX6_set 4 (some .int) ∈ jm_G := jm_memG (List.mem_of_getElem? (i := 244) (by decide +kernel)) (by decide +kernel)
theorem wd_496 : Cond.methodLink RL 18 yX6_set ∈ jm_G := jm_memG (List.mem_of_getElem? (i := 241) (by decide +kernel)) (by decide +kernel)
theorem wd_497 : Cond.instanceMethod yX6_set ∈ jm_G := jm_memG (List.mem_of_getElem? (i := 242) (by decide +kernel)) (by decide +kernel)
theorem wd_498 : Cond.selects RX6 yX6_set yX6_set ∈ jm_G := jm_memG (List.mem_of_getElem? (i := 243) (by decide +kernel)) (by decide +kernel)
theorem jm_m_11018 : jm_mok (11018, md_X6_set, 3, 0) := ⟨by decide, wd_495, wd_53, rfl, by decide +kernel, ⟨by decide, by decide, by decide +kernel⟩, by decide, by decide, fun _ => wd_496, fun h => absurd h (by decide), fun _ => ⟨wd_497, by decide, rfl⟩, fun _ => wd_498, fun h => absurd h (by decide)⟩
theorem wd_499 : Cond.code yX7_set cX7_set 4 (some .int) ∈ jm_G := jm_memG (List.mem_of_getElem? (i := 809) (by decide +kernel)) (by decide +kernel)
theorem wd_500 : Cond.methodLink RL 21 yX7_set ∈ jm_G := jm_memG (List.mem_of_getElem? (i := 806) (by decide +kernel)) (by decide +kernel)
theorem wd_501 : Cond.instanceMethod yX7_set ∈ jm_G := jm_memG (List.mem_of_getElem? (i := 807) (by decide +kernel)) (by decide +kernel)
theorem wd_502 : Cond.selects RX7 yX7_set yX7_set ∈ jm_G := jm_memG (List.mem_of_getElem? (i := 808) (by decide +kernel)) (by decide +kernel)
theorem jm_m_11021 : jm_mok (11021, md_X7_set, 3, 0) := ⟨by decide, wd_499, wd_317, rfl, by decide +kernel, ⟨by decide, by decide, by decide +kernel⟩, by decide, by decide, fun _ => wd_500, fun h => absurd h (by decide), fun _ => ⟨wd_501, by decide, rfl⟩, fun _ => wd_502, fun h => absurd h (by decide)⟩
theorem wd_503 : Cond.code yX6_copy cX6_copy 6 (some .int) ∈ jm_G := jm_memG (List.mem_of_getElem? (i := 260) (by decide +kernel)) (by decide +kernel)
theorem wd_504 : Cond.methodLink RL 22 yX6_copy ∈ jm_G := jm_memG (List.mem_of_getElem? (i := 257) (by decide +kernel)) (by decide +kernel)
theorem wd_505 : Cond.instanceMethod yX6_copy ∈ jm_G := jm_memG (List.mem_of_getElem? (i := 258) (by decide +kernel)) (by decide +kernel)
theorem wd_506 : Cond.selects RX6 yX6_copy yX6_copy ∈ jm_G := jm_memG (List.mem_of_getElem? (i := 259) (by decide +kernel)) (by decide +kernel)
theorem jm_m_11022 : jm_mok (11022, md_X6_copy, 5, 0) := ⟨by decide, wd_503, wd_53, rfl, by decide +kernel, ⟨by decide, by decide, by decide +kernel⟩, by decide, by decide, fun _ => wd_504, fun h => absurd h (by decide), fun _ => ⟨wd_505, by decide, rfl⟩, fun _ => wd_506, fun h => absurd h (by decide)⟩
theorem wd_507 : Cond.code yX7_copy cX7_copy 7 (some .int) ∈ jm_G := jm_memG (List.mem_of_getElem? (i := 816) (by decide +kernel)) (by decide +kernel)
theorem wd_508 : Cond.methodLink RL 26 yX7_copy ∈ jm_G := jm_memG (List.mem_of_getElem? (i := 813) (by decide +kernel)) (by decide +kernel)
theorem wd_509 : Cond.instanceMethod yX7_copy ∈ jm_G := jm_memG (List.mem_of_getElem? (i := 814) (by decide +kernel)) (by decide +kernel)
theorem wd_510 : Cond.selects RX7 yX7_copy yX7_copy ∈ jm_G := jm_memG (List.mem_of_getElem? (i := 815) (by decide +kernel)) (by decide +kernel)
theorem jm_m_11026 : jm_mok (11026, md_X7_copy, 5, 0) := ⟨by decide, wd_507, wd_317, rfl, by decide +kernel, ⟨by decide, by decide, by decide +kernel⟩, by decide, by decide, fun _ => wd_508, fun h => absurd h (by decide), fun _ => ⟨wd_509, by decide, rfl⟩, fun _ => wd_510, fun h => absurd h (by decide)⟩
theorem wd_511 : Cond.code yX6_drop cX6_drop 2 (some .int) ∈ jm_G := jm_memG (List.mem_of_getElem? (i := 275) (by decide +kernel)) (by decide +kernel)
theorem wd_512 : Cond.methodLink RL 27 yX6_drop ∈ jm_G := jm_memG (List.mem_of_getElem? (i := 272) (by decide +kernel)) (by decide +kernel)
theorem wd_513 : Cond.instanceMethod yX6_drop ∈ jm_G := jm_memG (List.mem_of_getElem? (i := 273) (by decide +kernel)) (by decide +kernel)
theorem wd_514 : Cond.selects RX6 yX6_drop yX6_drop ∈ jm_G := jm_memG (List.mem_of_getElem? (i := 274) (by decide +kernel)) (by decide +kernel)
theorem jm_m_11027 : jm_mok (11027, md_X6_drop, 1, 0) := ⟨by decide, wd_511, wd_53, rfl, by decide +kernel, ⟨by decide, by decide, by decide +kernel⟩, by decide, by decide, fun _ => wd_512, fun h => absurd h (by decide), fun _ => ⟨wd_513, by decide, rfl⟩, fun _ => wd_514, fun h => absurd h (by decide)⟩
theorem wd_515 : Cond.code yX7_drop cX7_drop 3 (some .int) ∈ jm_G := jm_memG (List.mem_of_getElem? (i := 820) (by decide +kernel)) (by decide +kernel)
theorem wd_516 : Cond.methodLink RL 31 yX7_drop ∈ jm_G := jm_memG (List.mem_of_getElem? (i := 817) (by decide +kernel)) (by decide +kernel)
theorem wd_517 : Cond.instanceMethod yX7_drop ∈ jm_G := jm_memG (List.mem_of_getElem? (i := 818) (by decide +kernel)) (by decide +kernel)
theorem wd_518 : Cond.selects RX7 yX7_drop yX7_drop ∈ jm_G := jm_memG (List.mem_of_getElem? (i := 819) (by decide +kernel)) (by decide +kernel)
theorem jm_m_11031 : jm_mok (11031, md_X7_drop, 1, 0) := ⟨by decide, wd_515, wd_317, rfl, by decide +kernel, ⟨by decide, by decide, by decide +kernel⟩, by decide, by decide, fun _ => wd_516, fun h => absurd h (by decide), fun _ => ⟨wd_517, by decide, rfl⟩, fun _ => wd_518, fun h => absurd h (by decide)⟩
theorem wd_519 : Cond.code yX6_feed cX6_feed 2 (some .int) ∈ jm_G := jm_memG (List.mem_of_getElem? (i := 283) (by decide +kernel)) (by decide +kernel)
theorem wd_520 : Cond.methodLink RL 32 yX6_feed ∈ jm_G := jm_memG (List.mem_of_getElem? (i := 280) (by decide +kernel)) (by decide +kernel)
theorem wd_521 : Cond.instanceMethod yX6_feed ∈ jm_G := jm_memG (List.mem_of_getElem? (i := 281) (by decide +kernel)) (by decide +kernel)
theorem wd_522 : Cond.selects RX6 yX6_feed yX6_feed ∈ jm_G := jm_memG (List.mem_of_getElem? (i := 282) (by decide +kernel)) (by decide +kernel)
theorem jm_m_11032 : jm_mok (11032, md_X6_feed, 1, 0) := ⟨by decide, wd_519, wd_53, rfl, by decide +kernel, ⟨by decide, by decide, by decide +kernel⟩, by decide, by decide, fun _ => wd_520, fun h => absurd h (by decide), fun _ => ⟨wd_521, by decide, rfl⟩, fun _ => wd_522, fun h => absurd h (by decide)⟩
theorem wd_523 : Cond.code yX7_feed cX7_feed 2 (some .int) ∈ jm_G := jm_memG (List.mem_of_getElem? (i := 824) (by decide +kernel)) (by decide +kernel)
theorem wd_524 : Cond.methodLink RL 35 yX7_feed ∈ jm_G := jm_memG (List.mem_of_getElem? (i := 821) (by decide +kernel)) (by decide +kernel)
theorem wd_525 : Cond.instanceMethod yX7_feed ∈ jm_G := jm_memG (List.mem_of_getElem? (i := 822) (by decide +kernel)) (by decide +kernel)
theorem wd_526 : Cond.selects RX7 yX7_feed yX7_feed ∈ jm_G := jm_memG (List.mem_of_getElem? (i := 823) (by decide +kernel)) (by decide +kernel)
theorem jm_m_11035 : jm_mok (11035, md_X7_feed, 1, 0) := ⟨by decide, wd_523, wd_317, rfl, by decide +kernel, ⟨by decide, by decide, by decide +kernel⟩, by decide, by decide, fun _ => wd_524, fun h => absurd h (by decide), fun _ => ⟨wd_525, by decide, rfl⟩, fun _ => wd_526, fun h => absurd h (by decide)⟩
theorem wd_527 : Cond.code yX6_isle cX6_isle 3 (some .int) ∈ jm_G := jm_memG (List.mem_of_getElem? (i := 297) (by decide +kernel)) (by decide +kernel)
theorem wd_528 : Cond.methodLink RL 36 yX6_isle ∈ jm_G := jm_memG (List.mem_of_getElem? (i := 294) (by decide +kernel)) (by decide +kernel)
theorem wd_529 : Cond.instanceMethod yX6_isle ∈ jm_G := jm_memG (List.mem_of_getElem? (i := 295) (by decide +kernel)) (by decide +kernel)
theorem wd_530 : Cond.selects RX6 yX6_isle yX6_isle ∈ jm_G := jm_memG (List.mem_of_getElem? (i := 296) (by decide +kernel)) (by decide +kernel)
theorem jm_m_11036 : jm_mok (11036, md_X6_isle, 0, 0) := ⟨by decide, wd_527, wd_53, rfl, by decide +kernel, ⟨by decide, by decide, by decide +kernel⟩, by decide, by decide, fun _ => wd_528, fun h => absurd h (by decide), fun _ => ⟨wd_529, by decide, rfl⟩, fun _ => wd_530, fun h => absurd h (by decide)⟩
theorem wd_531 : Cond.code yX7_isle cX7_isle 3 (some .int) ∈ jm_G := jm_memG (List.mem_of_getElem? (i := 830) (by decide +kernel)) (by decide +kernel)
theorem wd_532 : Cond.methodLink RL 40 yX7_isle ∈ jm_G := jm_memG (List.mem_of_getElem? (i := 827) (by decide +kernel)) (by decide +kernel)
theorem wd_533 : Cond.instanceMethod yX7_isle ∈ jm_G := jm_memG (List.mem_of_getElem? (i := 828) (by decide +kernel)) (by decide +kernel)
theorem wd_534 : Cond.selects RX7 yX7_isle yX7_isle ∈ jm_G := jm_memG (List.mem_of_getElem? (i := 829) (by decide +kernel)) (by decide +kernel)
theorem jm_m_11040 : jm_mok (11040, md_X7_isle, 0, 0) := ⟨by decide, wd_531, wd_317, rfl, by decide +kernel, ⟨by decide, by decide, by decide +kernel⟩, by decide, by decide, fun _ => wd_532, fun h => absurd h (by decide), fun _ => ⟨wd_533, by decide, rfl⟩, fun _ => wd_534, fun h => absurd h (by decide)⟩
theorem wd_535 : Cond.code yX6_fault cX6_fault 1 (some .int) ∈ jm_G := jm_memG (List.mem_of_getElem? (i := 363) (by decide +kernel)) (by decide +kernel)
theorem wd_536 : Cond.methodLink RL 41 yX6_fault ∈ jm_G := jm_memG (List.mem_of_getElem? (i := 360) (by decide +kernel)) (by decide +kernel)
theorem wd_537 : Cond.instanceMethod yX6_fault ∈ jm_G := jm_memG (List.mem_of_getElem? (i := 361) (by decide +kernel)) (by decide +kernel)
theorem wd_538 : Cond.selects RX6 yX6_fault yX6_fault ∈ jm_G := jm_memG (List.mem_of_getElem? (i := 362) (by decide +kernel)) (by decide +kernel)
theorem jm_m_11041 : jm_mok (11041, md_X6_fault, 0, 0) := ⟨by decide, wd_535, wd_53, rfl, by decide +kernel, ⟨by decide, by decide, by decide +kernel⟩, by decide, by decide, fun _ => wd_536, fun h => absurd h (by decide), fun _ => ⟨wd_537, by decide, rfl⟩, fun _ => wd_538, fun h => absurd h (by decide)⟩
theorem wd_539 : Cond.code yX7_fault cX7_fault 1 (some .int) ∈ jm_G := jm_memG (List.mem_of_getElem? (i := 871) (by decide +kernel)) (by decide +kernel)
theorem wd_540 : Cond.methodLink RL 44 yX7_fault ∈ jm_G := jm_memG (List.mem_of_getElem? (i := 868) (by decide +kernel)) (by decide +kernel)
theorem wd_541 : Cond.instanceMethod yX7_fault ∈ jm_G := jm_memG (List.mem_of_getElem? (i := 869) (by decide +kernel)) (by decide +kernel)
theorem wd_542 : Cond.selects RX7 yX7_fault yX7_fault ∈ jm_G := jm_memG (List.mem_of_getElem? (i := 870) (by decide +kernel)) (by decide +kernel)
theorem jm_m_11044 : jm_mok (11044, md_X7_fault, 0, 0) := ⟨by decide, wd_539, wd_317, rfl, by decide +kernel, ⟨by decide, by decide, by decide +kernel⟩, by decide, by decide, fun _ => wd_540, fun h => absurd h (by decide), fun _ => ⟨wd_541, by decide, rfl⟩, fun _ => wd_542, fun h => absurd h (by decide)⟩
theorem wd_543 : Cond.code yX6_undo cX6_undo 1 (some .int) ∈ jm_G := jm_memG (List.mem_of_getElem? (i := 367) (by decide +kernel)) (by decide +kernel)
theorem wd_544 : Cond.methodLink RL 45 yX6_undo ∈ jm_G := jm_memG (List.mem_of_getElem? (i := 364) (by decide +kernel)) (by decide +kernel)
theorem wd_545 : Cond.instanceMethod yX6_undo ∈ jm_G := jm_memG (List.mem_of_getElem? (i := 365) (by decide +kernel)) (by decide +kernel)
theorem wd_546 : Cond.selects RX6 yX6_undo yX6_undo ∈ jm_G := jm_memG (List.mem_of_getElem? (i := 366) (by decide +kernel)) (by decide +kernel)
theorem jm_m_11045 : jm_mok (11045, md_X6_undo, 0, 0) := ⟨by decide, wd_543, wd_53, rfl, by decide +kernel, ⟨by decide, by decide, by decide +kernel⟩, by decide, by decide, fun _ => wd_544, fun h => absurd h (by decide), fun _ => ⟨wd_545, by decide, rfl⟩, fun _ => wd_546, fun h => absurd h (by decide)⟩
theorem wd_547 : Cond.code yX7_undo cX7_undo 2 (some .int) ∈ jm_G := jm_memG (List.mem_of_getElem? (i := 875) (by decide +kernel)) (by decide +kernel)
theorem wd_548 : Cond.methodLink RL 48 yX7_undo ∈ jm_G := jm_memG (List.mem_of_getElem? (i := 872) (by decide +kernel)) (by decide +kernel)
theorem wd_549 : Cond.instanceMethod yX7_undo ∈ jm_G := jm_memG (List.mem_of_getElem? (i := 873) (by decide +kernel)) (by decide +kernel)
theorem wd_550 : Cond.selects RX7 yX7_undo yX7_undo ∈ jm_G := jm_memG (List.mem_of_getElem? (i := 874) (by decide +kernel)) (by decide +kernel)
theorem jm_m_11048 : jm_mok (11048, md_X7_undo, 0, 0) := ⟨by decide, wd_547, wd_317, rfl, by decide +kernel, ⟨by decide, by decide, by decide +kernel⟩, by decide, by decide, fun _ => wd_548, fun h => absurd h (by decide), fun _ => ⟨wd_549, by decide, rfl⟩, fun _ => wd_550, fun h => absurd h (by decide)⟩
theorem wd_551 : Cond.code yX6_hours cX6_hours 3 (some .int) ∈ jm_G := jm_memG (List.mem_of_getElem? (i := 377) (by decide +kernel)) (by decide +kernel)
theorem wd_552 : Cond.methodLink RL 49 yX6_hours ∈ jm_G := jm_memG (List.mem_of_getElem? (i := 374) (by decide +kernel)) (by decide +kernel)
theorem wd_553 : Cond.instanceMethod yX6_hours ∈ jm_G := jm_memG (List.mem_of_getElem? (i := 375) (by decide +kernel)) (by decide +kernel)
theorem wd_554 : Cond.selects RX6 yX6_hours yX6_hours ∈ jm_G := jm_memG (List.mem_of_getElem? (i := 376) (by decide +kernel)) (by decide +kernel)
theorem jm_m_11049 : jm_mok (11049, md_X6_hours, 1, 0) := ⟨by decide, wd_551, wd_53, rfl, by decide +kernel, ⟨by decide, by decide, by decide +kernel⟩, by decide, by decide, fun _ => wd_552, fun h => absurd h (by decide), fun _ => ⟨wd_553, by decide, rfl⟩, fun _ => wd_554, fun h => absurd h (by decide)⟩
theorem wd_555 : Cond.code yX7_hours cX7_hours 3 (some .int) ∈ jm_G := jm_memG (List.mem_of_getElem? (i := 880) (by decide +kernel)) (by decide +kernel)
theorem wd_556 : Cond.methodLink RL 52 yX7_hours ∈ jm_G := jm_memG (List.mem_of_getElem? (i := 877) (by decide +kernel)) (by decide +kernel)
theorem wd_557 : Cond.instanceMethod yX7_hours ∈ jm_G := jm_memG (List.mem_of_getElem? (i := 878) (by decide +kernel)) (by decide +kernel)
theorem wd_558 : Cond.selects RX7 yX7_hours yX7_hours ∈ jm_G := jm_memG (List.mem_of_getElem? (i := 879) (by decide +kernel)) (by decide +kernel)
theorem jm_m_11052 : jm_mok (11052, md_X7_hours, 1, 0) := ⟨by decide, wd_555, wd_317, rfl, by decide +kernel, ⟨by decide, by decide, by decide +kernel⟩, by decide, by decide, fun _ => wd_556, fun h => absurd h (by decide), fun _ => ⟨wd_557, by decide, rfl⟩, fun _ => wd_558, fun h => absurd h (by decide)⟩
theorem wd_559 : Cond.code yX6_send cX6_send 3 (some .int) ∈ jm_G := jm_memG (List.mem_of_getElem? (i := 427) (by decide +kernel)) (by decide +kernel)
theorem wd_560 : Cond.methodLink RL 53 yX6_send ∈ jm_G := jm_memG (List.mem_of_getElem? (i := 424) (by decide +kernel)) (by decide +kernel)
theorem wd_561 : Cond.instanceMethod yX6_send ∈ jm_G := jm_memG (List.mem_of_getElem? (i := 425) (by decide +kernel)) (by decide +kernel)
theorem wd_562 : Cond.selects RX6 yX6_send yX6_send ∈ jm_G := jm_memG (List.mem_of_getElem? (i := 426) (by decide +kernel)) (by decide +kernel)
theorem jm_m_11053 : jm_mok (11053, md_X6_send, 2, 0) := ⟨by decide, wd_559, wd_53, rfl, by decide +kernel, ⟨by decide, by decide, by decide +kernel⟩, by decide, by decide, fun _ => wd_560, fun h => absurd h (by decide), fun _ => ⟨wd_561, by decide, rfl⟩, fun _ => wd_562, fun h => absurd h (by decide)⟩
theorem wd_563 : Cond.code yX7_send cX7_send 3 (some .int) ∈ jm_G := jm_memG (List.mem_of_getElem? (i := 920) (by decide +kernel)) (by decide +kernel)
theorem wd_564 : Cond.methodLink RL 57 yX7_send ∈ jm_G := jm_memG (List.mem_of_getElem? (i := 917) (by decide +kernel)) (by decide +kernel)
theorem wd_565 : Cond.instanceMethod yX7_send ∈ jm_G := jm_memG (List.mem_of_getElem? (i := 918) (by decide +kernel)) (by decide +kernel)
theorem wd_566 : Cond.selects RX7 yX7_send yX7_send ∈ jm_G := jm_memG (List.mem_of_getElem? (i := 919) (by decide +kernel)) (by decide +kernel)
theorem jm_m_11057 : jm_mok (11057, md_X7_send, 2, 0) := ⟨by decide, wd_563, wd_317, rfl, by decide +kernel, ⟨by decide, by decide, by decide +kernel⟩, by decide, by decide, fun _ => wd_564, fun h => absurd h (by decide), fun _ => ⟨wd_565, by decide, rfl⟩, fun _ => wd_566, fun h => absurd h (by decide)⟩
theorem wd_567 : Cond.code yX6_wind cX6_wind 3 (some .int) ∈ jm_G := jm_memG (List.mem_of_getElem? (i := 433) (by decide +kernel)) (by decide +kernel)
theorem wd_568 : Cond.methodLink RL 58 yX6_wind ∈ jm_G := jm_memG (List.mem_of_getElem? (i := 430) (by decide +kernel)) (by decide +kernel)
theorem wd_569 : Cond.instanceMethod yX6_wind ∈ jm_G := jm_memG (List.mem_of_getElem? (i := 431) (by decide +kernel)) (by decide +kernel)
theorem wd_570 : Cond.selects RX6 yX6_wind yX6_wind ∈ jm_G := jm_memG (List.mem_of_getElem? (i := 432) (by decide +kernel)) (by decide +kernel)
theorem jm_m_11058 : jm_mok (11058, md_X6_wind, 1, 0) := ⟨by decide, wd_567, wd_53, rfl, by decide +kernel, ⟨by decide, by decide, by decide +kernel⟩, by decide, by decide, fun _ => wd_568, fun h => absurd h (by decide), fun _ => ⟨wd_569, by decide, rfl⟩, fun _ => wd_570, fun h => absurd h (by decide)⟩
theorem wd_571 : Cond.code yX7_wind cX7_wind 3 (some .int) ∈ jm_G := jm_memG (List.mem_of_getElem? (i := 928) (by decide +kernel)) (by decide +kernel)
theorem wd_572 : Cond.methodLink RL 61 yX7_wind ∈ jm_G := jm_memG (List.mem_of_getElem? (i := 925) (by decide +kernel)) (by decide +kernel)
theorem wd_573 : Cond.instanceMethod yX7_wind ∈ jm_G := jm_memG (List.mem_of_getElem? (i := 926) (by decide +kernel)) (by decide +kernel)
theorem wd_574 : Cond.selects RX7 yX7_wind yX7_wind ∈ jm_G := jm_memG (List.mem_of_getElem? (i := 927) (by decide +kernel)) (by decide +kernel)
theorem jm_m_11061 : jm_mok (11061, md_X7_wind, 1, 0) := ⟨by decide, wd_571, wd_317, rfl, by decide +kernel, ⟨by decide, by decide, by decide +kernel⟩, by decide, by decide, fun _ => wd_572, fun h => absurd h (by decide), fun _ => ⟨wd_573, by decide, rfl⟩, fun _ => wd_574, fun h => absurd h (by decide)⟩
theorem wd_575 : Cond.code yX6_sand cX6_sand 4 (some .int) ∈ jm_G := jm_memG (List.mem_of_getElem? (i := 437) (by decide +kernel)) (by decide +kernel)
theorem wd_576 : Cond.methodLink RL 62 yX6_sand ∈ jm_G := jm_memG (List.mem_of_getElem? (i := 434) (by decide +kernel)) (by decide +kernel)
theorem wd_577 : Cond.instanceMethod yX6_sand ∈ jm_G := jm_memG (List.mem_of_getElem? (i := 435) (by decide +kernel)) (by decide +kernel)
theorem wd_578 : Cond.selects RX6 yX6_sand yX6_sand ∈ jm_G := jm_memG (List.mem_of_getElem? (i := 436) (by decide +kernel)) (by decide +kernel)
theorem jm_m_11062 : jm_mok (11062, md_X6_sand, 2, 0) := ⟨by decide, wd_575, wd_53, rfl, by decide +kernel, ⟨by decide, by decide, by decide +kernel⟩, by decide, by decide, fun _ => wd_576, fun h => absurd h (by decide), fun _ => ⟨wd_577, by decide, rfl⟩, fun _ => wd_578, fun h => absurd h (by decide)⟩
theorem wd_579 : Cond.code yX7_sand cX7_sand 4 (some .int) ∈ jm_G := jm_memG (List.mem_of_getElem? (i := 933) (by decide +kernel)) (by decide +kernel)
theorem wd_580 : Cond.methodLink RL 65 yX7_sand ∈ jm_G := jm_memG (List.mem_of_getElem? (i := 930) (by decide +kernel)) (by decide +kernel)
theorem wd_581 : Cond.instanceMethod yX7_sand ∈ jm_G := jm_memG (List.mem_of_getElem? (i := 931) (by decide +kernel)) (by decide +kernel)
theorem wd_582 : Cond.selects RX7 yX7_sand yX7_sand ∈ jm_G := jm_memG (List.mem_of_getElem? (i := 932) (by decide +kernel)) (by decide +kernel)
theorem jm_m_11065 : jm_mok (11065, md_X7_sand, 2, 0) := ⟨by decide, wd_579, wd_317, rfl, by decide +kernel, ⟨by decide, by decide, by decide +kernel⟩, by decide, by decide, fun _ => wd_580, fun h => absurd h (by decide), fun _ => ⟨wd_581, by decide, rfl⟩, fun _ => wd_582, fun h => absurd h (by decide)⟩
theorem wd_583 : Cond.code yX6_speed cX6_speed 4 (some .int) ∈ jm_G := jm_memG (List.mem_of_getElem? (i := 445) (by decide +kernel)) (by decide +kernel)
theorem wd_584 : Cond.methodLink RL 66 yX6_speed ∈ jm_G := jm_memG (List.mem_of_getElem? (i := 442) (by decide +kernel)) (by decide +kernel)
theorem wd_585 : Cond.instanceMethod yX6_speed ∈ jm_G := jm_memG (List.mem_of_getElem? (i := 443) (by decide +kernel)) (by decide +kernel)
theorem wd_586 : Cond.selects RX6 yX6_speed yX6_speed ∈ jm_G := jm_memG (List.mem_of_getElem? (i := 444) (by decide +kernel)) (by decide +kernel)
theorem jm_m_11066 : jm_mok (11066, md_X6_speed, 2, 0) := ⟨by decide, wd_583, wd_53, rfl, by decide +kernel, ⟨by decide, by decide, by decide +kernel⟩, by decide, by decide, fun _ => wd_584, fun h => absurd h (by decide), fun _ => ⟨wd_585, by decide, rfl⟩, fun _ => wd_586, fun h => absurd h (by decide)⟩
theorem wd_587 : Cond.code yX7_speed cX7_speed 4 (some .int) ∈ jm_G := jm_memG (List.mem_of_getElem? (i := 944) (by decide +kernel)) (by decide +kernel)
theorem wd_588 : Cond.methodLink RL 69 yX7_speed ∈ jm_G := jm_memG (List.mem_of_getElem? (i := 941) (by decide +kernel)) (by decide +kernel)
theorem wd_589 : Cond.instanceMethod yX7_speed ∈ jm_G := jm_memG (List.mem_of_getElem? (i := 942) (by decide +kernel)) (by decide +kernel)
theorem wd_590 : Cond.selects RX7 yX7_speed yX7_speed ∈ jm_G := jm_memG (List.mem_of_getElem? (i := 943) (by decide +kernel)) (by decide +kernel)
theorem jm_m_11069 : jm_mok (11069, md_X7_speed, 2, 0) := ⟨by decide, wd_587, wd_317, rfl, by decide +kernel, ⟨by decide, by decide, by decide +kernel⟩, by decide, by decide, fun _ => wd_588, fun h => absurd h (by decide), fun _ => ⟨wd_589, by decide, rfl⟩, fun _ => wd_590, fun h => absurd h (by decide)⟩
theorem wd_591 : Cond.code yX6_boat cX6_boat 3 (some .int) ∈ jm_G := jm_memG (List.mem_of_getElem? (i := 449) (by decide +kernel)) (by decide +kernel)
theorem wd_592 : Cond.methodLink RL 70 yX6_boat ∈ jm_G := jm_memG (List.mem_of_getElem? (i := 446) (by decide +kernel)) (by decide +kernel)
theorem wd_593 : Cond.instanceMethod yX6_boat ∈ jm_G := jm_memG (List.mem_of_getElem? (i := 447) (by decide +kernel)) (by decide +kernel)
theorem wd_594 : Cond.selects RX6 yX6_boat yX6_boat ∈ jm_G := jm_memG (List.mem_of_getElem? (i := 448) (by decide +kernel)) (by decide +kernel)
theorem jm_m_11070 : jm_mok (11070, md_X6_boat, 2, 0) := ⟨by decide, wd_591, wd_53, rfl, by decide +kernel, ⟨by decide, by decide, by decide +kernel⟩, by decide, by decide, fun _ => wd_592, fun h => absurd h (by decide), fun _ => ⟨wd_593, by decide, rfl⟩, fun _ => wd_594, fun h => absurd h (by decide)⟩
theorem wd_595 : Cond.code yX7_boat cX7_boat 3 (some .int) ∈ jm_G := jm_memG (List.mem_of_getElem? (i := 949) (by decide +kernel)) (by decide +kernel)
theorem wd_596 : Cond.methodLink RL 73 yX7_boat ∈ jm_G := jm_memG (List.mem_of_getElem? (i := 946) (by decide +kernel)) (by decide +kernel)
theorem wd_597 : Cond.instanceMethod yX7_boat ∈ jm_G := jm_memG (List.mem_of_getElem? (i := 947) (by decide +kernel)) (by decide +kernel)
theorem wd_598 : Cond.selects RX7 yX7_boat yX7_boat ∈ jm_G := jm_memG (List.mem_of_getElem? (i := 948) (by decide +kernel)) (by decide +kernel)
theorem jm_m_11073 : jm_mok (11073, md_X7_boat, 2, 0) := ⟨by decide, wd_595, wd_317, rfl, by decide +kernel, ⟨by decide, by decide, by decide +kernel⟩, by decide, by decide, fun _ => wd_596, fun h => absurd h (by decide), fun _ => ⟨wd_597, by decide, rfl⟩, fun _ => wd_598, fun h => absurd h (by decide)⟩
theorem wd_599 : Cond.code yX6_cell cX6_cell 3 (some .int) ∈ jm_G := jm_memG (List.mem_of_getElem? (i := 458) (by decide +kernel)) (by decide +kernel)
theorem wd_600 : Cond.methodLink RL 74 yX6_cell ∈ jm_G := jm_memG (List.mem_of_getElem? (i := 455) (by decide +kernel)) (by decide +kernel)
theorem wd_601 : Cond.instanceMethod yX6_cell ∈ jm_G := jm_memG (List.mem_of_getElem? (i := 456) (by decide +kernel)) (by decide +kernel)
theorem wd_602 : Cond.selects RX6 yX6_cell yX6_cell ∈ jm_G := jm_memG (List.mem_of_getElem? (i := 457) (by decide +kernel)) (by decide +kernel)
theorem jm_m_11074 : jm_mok (11074, md_X6_cell, 2, 0) := ⟨by decide, wd_599, wd_53, rfl, by decide +kernel, ⟨by decide, by decide, by decide +kernel⟩, by decide, by decide, fun _ => wd_600, fun h => absurd h (by decide), fun _ => ⟨wd_601, by decide, rfl⟩, fun _ => wd_602, fun h => absurd h (by decide)⟩
theorem wd_603 : Cond.code yX7_cell cX7_cell 3 (some .int) ∈ jm_G := jm_memG (List.mem_of_getElem? (i := 953) (by decide +kernel)) (by decide +kernel)
theorem wd_604 : Cond.methodLink RL 77 yX7_cell ∈ jm_G := jm_memG (List.mem_of_getElem? (i := 950) (by decide +kernel)) (by decide +kernel)
theorem wd_605 : Cond.instanceMethod yX7_cell ∈ jm_G := jm_memG (List.mem_of_getElem? (i := 951) (by decide +kernel)) (by decide +kernel)
theorem wd_606 : Cond.selects RX7 yX7_cell yX7_cell ∈ jm_G := jm_memG (List.mem_of_getElem? (i := 952) (by decide +kernel)) (by decide +kernel)
theorem jm_m_11077 : jm_mok (11077, md_X7_cell, 2, 0) := ⟨by decide, wd_603, wd_317, rfl, by decide +kernel, ⟨by decide, by decide, by decide +kernel⟩, by decide, by decide, fun _ => wd_604, fun h => absurd h (by decide), fun _ => ⟨wd_605, by decide, rfl⟩, fun _ => wd_606, fun h => absurd h (by decide)⟩
theorem wd_607 : Cond.code yX6_stand cX6_stand 2 (some .int) ∈ jm_G := jm_memG (List.mem_of_getElem? (i := 463) (by decide +kernel)) (by decide +kernel)
theorem wd_608 : Cond.methodLink RL 78 yX6_stand ∈ jm_G := jm_memG (List.mem_of_getElem? (i := 460) (by decide +kernel)) (by decide +kernel)
theorem wd_609 : Cond.instanceMethod yX6_stand ∈ jm_G := jm_memG (List.mem_of_getElem? (i := 461) (by decide +kernel)) (by decide +kernel)
theorem wd_610 : Cond.selects RX6 yX6_stand yX6_stand ∈ jm_G := jm_memG (List.mem_of_getElem? (i := 462) (by decide +kernel)) (by decide +kernel)
theorem jm_m_11078 : jm_mok (11078, md_X6_stand, 1, 0) := ⟨by decide, wd_607, wd_53, rfl, by decide +kernel, ⟨by decide, by decide, by decide +kernel⟩, by decide, by decide, fun _ => wd_608, fun h => absurd h (by decide), fun _ => ⟨wd_609, by decide, rfl⟩, fun _ => wd_610, fun h => absurd h (by decide)⟩
theorem wd_611 : Cond.code yX7_stand cX7_stand 2 (some .int) ∈ jm_G := jm_memG (List.mem_of_getElem? (i := 957) (by decide +kernel)) (by decide +kernel)
theorem wd_612 : Cond.methodLink RL 81 yX7_stand ∈ jm_G := jm_memG (List.mem_of_getElem? (i := 954) (by decide +kernel)) (by decide +kernel)
theorem wd_613 : Cond.instanceMethod yX7_stand ∈ jm_G := jm_memG (List.mem_of_getElem? (i := 955) (by decide +kernel)) (by decide +kernel)
theorem wd_614 : Cond.selects RX7 yX7_stand yX7_stand ∈ jm_G := jm_memG (List.mem_of_getElem? (i := 956) (by decide +kernel)) (by decide +kernel)
theorem jm_m_11081 : jm_mok (11081, md_X7_stand, 1, 0) := ⟨by decide, wd_611, wd_317, rfl, by decide +kernel, ⟨by decide, by decide, by decide +kernel⟩, by decide, by decide, fun _ => wd_612, fun h => absurd h (by decide), fun _ => ⟨wd_613, by decide, rfl⟩, fun _ => wd_614, fun h => absurd h (by decide)⟩
theorem wd_615 : Cond.code yX6_ahead cX6_ahead 3 (some .int) ∈ jm_G := jm_memG (List.mem_of_getElem? (i := 471) (by decide +kernel)) (by decide +kernel)
theorem wd_616 : Cond.methodLink RL 82 yX6_ahead ∈ jm_G := jm_memG (List.mem_of_getElem? (i := 468) (by decide +kernel)) (by decide +kernel)
theorem wd_617 : Cond.instanceMethod yX6_ahead ∈ jm_G := jm_memG (List.mem_of_getElem? (i := 469) (by decide +kernel)) (by decide +kernel)
theorem wd_618 : Cond.selects RX6 yX6_ahead yX6_ahead ∈ jm_G := jm_memG (List.mem_of_getElem? (i := 470) (by decide +kernel)) (by decide +kernel)
theorem jm_m_11082 : jm_mok (11082, md_X6_ahead, 2, 0) := ⟨by decide, wd_615, wd_53, rfl, by decide +kernel, ⟨by decide, by decide, by decide +kernel⟩, by decide, by decide, fun _ => wd_616, fun h => absurd h (by decide), fun _ => ⟨wd_617, by decide, rfl⟩, fun _ => wd_618, fun h => absurd h (by decide)⟩
theorem wd_619 : Cond.code yX7_ahead cX7_ahead 4 (some .int) ∈ jm_G := jm_memG (List.mem_of_getElem? (i := 961) (by decide +kernel)) (by decide +kernel)
theorem wd_620 : Cond.methodLink RL 85 yX7_ahead ∈ jm_G := jm_memG (List.mem_of_getElem? (i := 958) (by decide +kernel)) (by decide +kernel)
theorem wd_621 : Cond.instanceMethod yX7_ahead ∈ jm_G := jm_memG (List.mem_of_getElem? (i := 959) (by decide +kernel)) (by decide +kernel)
theorem wd_622 : Cond.selects RX7 yX7_ahead yX7_ahead ∈ jm_G := jm_memG (List.mem_of_getElem? (i := 960) (by decide +kernel)) (by decide +kernel)
theorem jm_m_11085 : jm_mok (11085, md_X7_ahead, 2, 0) := ⟨by decide, wd_619, wd_317, rfl, by decide +kernel, ⟨by decide, by decide, by decide +kernel⟩, by decide, by decide, fun _ => wd_620, fun h => absurd h (by decide), fun _ => ⟨wd_621, by decide, rfl⟩, fun _ => wd_622, fun h => absurd h (by decide)⟩
theorem wd_623 : Cond.code yX6_owner cX6_owner 2 (some .int) ∈ jm_G := jm_memG (List.mem_of_getElem? (i := 485) (by decide +kernel)) (by decide +kernel)
theorem wd_624 : Cond.methodLink RL 86 yX6_owner ∈ jm_G := jm_memG (List.mem_of_getElem? (i := 482) (by decide +kernel)) (by decide +kernel)
theorem wd_625 : Cond.instanceMethod yX6_owner ∈ jm_G := jm_memG (List.mem_of_getElem? (i := 483) (by decide +kernel)) (by decide +kernel)
theorem wd_626 : Cond.selects RX6 yX6_owner yX6_owner ∈ jm_G := jm_memG (List.mem_of_getElem? (i := 484) (by decide +kernel)) (by decide +kernel)
theorem jm_m_11086 : jm_mok (11086, md_X6_owner, 1, 0) := ⟨by decide, wd_623, wd_53, rfl, by decide +kernel, ⟨by decide, by decide, by decide +kernel⟩, by decide, by decide, fun _ => wd_624, fun h => absurd h (by decide), fun _ => ⟨wd_625, by decide, rfl⟩, fun _ => wd_626, fun h => absurd h (by decide)⟩
theorem wd_627 : Cond.code yX7_owner cX7_owner 3 (some .int) ∈ jm_G := jm_memG (List.mem_of_getElem? (i := 978) (by decide +kernel)) (by decide +kernel)
theorem wd_628 : Cond.methodLink RL 89 yX7_owner ∈ jm_G := jm_memG (List.mem_of_getElem? (i := 975) (by decide +kernel)) (by decide +kernel)
theorem wd_629 : Cond.instanceMethod yX7_owner ∈ jm_G := jm_memG (List.mem_of_getElem? (i := 976) (by decide +kernel)) (by decide +kernel)
theorem wd_630 : Cond.selects RX7 yX7_owner yX7_owner ∈ jm_G := jm_memG (List.mem_of_getElem? (i := 977) (by decide +kernel)) (by decide +kernel)
theorem jm_m_11089 : jm_mok (11089, md_X7_owner, 1, 0) := ⟨by decide, wd_627, wd_317, rfl, by decide +kernel, ⟨by decide, by decide, by decide +kernel⟩, by decide, by decide, fun _ => wd_628, fun h => absurd h (by decide), fun _ => ⟨wd_629, by decide, rfl⟩, fun _ => wd_630, fun h => absurd h (by decide)⟩
theorem wd_631 : Cond.code yX6_held cX6_held 3 (some .int) ∈ jm_G := jm_memG (List.mem_of_getElem? (i := 489) (by decide +kernel)) (by decide +kernel)
theorem wd_632 : Cond.methodLink RL 90 yX6_held ∈ jm_G := jm_memG (List.mem_of_getElem? (i := 486) (by decide +kernel)) (by decide +kernel)
theorem wd_633 : Cond.instanceMethod yX6_held ∈ jm_G := jm_memG (List.mem_of_getElem? (i := 487) (by decide +kernel)) (by decide +kernel)
theorem wd_634 : Cond.selects RX6 yX6_held yX6_held ∈ jm_G := jm_memG (List.mem_of_getElem? (i := 488) (by decide +kernel)) (by decide +kernel)
theorem jm_m_11090 : jm_mok (11090, md_X6_held, 2, 0) := ⟨by decide, wd_631, wd_53, rfl, by decide +kernel, ⟨by decide, by decide, by decide +kernel⟩, by decide, by decide, fun _ => wd_632, fun h => absurd h (by decide), fun _ => ⟨wd_633, by decide, rfl⟩, fun _ => wd_634, fun h => absurd h (by decide)⟩
theorem wd_635 : Cond.code yX7_held cX7_held 4 (some .int) ∈ jm_G := jm_memG (List.mem_of_getElem? (i := 986) (by decide +kernel)) (by decide +kernel)
theorem wd_636 : Cond.methodLink RL 93 yX7_held ∈ jm_G := jm_memG (List.mem_of_getElem? (i := 983) (by decide +kernel)) (by decide +kernel)
theorem wd_637 : Cond.instanceMethod yX7_held ∈ jm_G := jm_memG (List.mem_of_getElem? (i := 984) (by decide +kernel)) (by decide +kernel)
theorem wd_638 : Cond.selects RX7 yX7_held yX7_held ∈ jm_G := jm_memG (List.mem_of_getElem? (i := 985) (by decide +kernel)) (by decide +kernel)
theorem jm_m_11093 : jm_mok (11093, md_X7_held, 2, 0) := ⟨by decide, wd_635, wd_317, rfl, by decide +kernel, ⟨by decide, by decide, by decide +kernel⟩, by decide, by decide, fun _ => wd_636, fun h => absurd h (by decide), fun _ => ⟨wd_637, by decide, rfl⟩, fun _ => wd_638, fun h => absurd h (by decide)⟩
theorem wd_639 : Cond.code yX6_shows cX6_shows 2 (some .int) ∈ jm_G := jm_memG (List.mem_of_getElem? (i := 493) (by decide +kernel)) (by decide +kernel)
theorem wd_640 : Cond.methodLink RL 94 yX6_shows ∈ jm_G := jm_memG (List.mem_of_getElem? (i := 490) (by decide +kernel)) (by decide +kernel)
theorem wd_641 : Cond.instanceMethod yX6_shows ∈ jm_G := jm_memG (List.mem_of_getElem? (i := 491) (by decide +kernel)) (by decide +kernel)
theorem wd_642 : Cond.selects RX6 yX6_shows yX6_shows ∈ jm_G := jm_memG (List.mem_of_getElem? (i := 492) (by decide +kernel)) (by decide +kernel)
theorem jm_m_11094 : jm_mok (11094, md_X6_shows, 0, 0) := ⟨by decide, wd_639, wd_53, rfl, by decide +kernel, ⟨by decide, by decide, by decide +kernel⟩, by decide, by decide, fun _ => wd_640, fun h => absurd h (by decide), fun _ => ⟨wd_641, by decide, rfl⟩, fun _ => wd_642, fun h => absurd h (by decide)⟩
theorem wd_643 : Cond.code yX7_shows cX7_shows 2 (some .int) ∈ jm_G := jm_memG (List.mem_of_getElem? (i := 990) (by decide +kernel)) (by decide +kernel)
theorem wd_644 : Cond.methodLink RL 97 yX7_shows ∈ jm_G := jm_memG (List.mem_of_getElem? (i := 987) (by decide +kernel)) (by decide +kernel)
theorem wd_645 : Cond.instanceMethod yX7_shows ∈ jm_G := jm_memG (List.mem_of_getElem? (i := 988) (by decide +kernel)) (by decide +kernel)
theorem wd_646 : Cond.selects RX7 yX7_shows yX7_shows ∈ jm_G := jm_memG (List.mem_of_getElem? (i := 989) (by decide +kernel)) (by decide +kernel)
theorem jm_m_11097 : jm_mok (11097, md_X7_shows, 0, 0) := ⟨by decide, wd_643, wd_317, rfl, by decide +kernel, ⟨by decide, by decide, by decide +kernel⟩, by decide, by decide, fun _ => wd_644, fun h => absurd h (by decide), fun _ => ⟨wd_645, by decide, rfl⟩, fun _ => wd_646, fun h => absurd h (by decide)⟩
theorem wd_647 : Cond.code yX6_dry cX6_dry 4 (some .int) ∈ jm_G := jm_memG (List.mem_of_getElem? (i := 497) (by decide +kernel)) (by decide +kernel)
theorem wd_648 : Cond.methodLink RL 98 yX6_dry ∈ jm_G := jm_memG (List.mem_of_getElem? (i := 494) (by decide +kernel)) (by decide +kernel)
theorem wd_649 : Cond.instanceMethod yX6_dry ∈ jm_G := jm_memG (List.mem_of_getElem? (i := 495) (by decide +kernel)) (by decide +kernel)
theorem wd_650 : Cond.selects RX6 yX6_dry yX6_dry ∈ jm_G := jm_memG (List.mem_of_getElem? (i := 496) (by decide +kernel)) (by decide +kernel)
theorem jm_m_11098 : jm_mok (11098, md_X6_dry, 1, 0) := ⟨by decide, wd_647, wd_53, rfl, by decide +kernel, ⟨by decide, by decide, by decide +kernel⟩, by decide, by decide, fun _ => wd_648, fun h => absurd h (by decide), fun _ => ⟨wd_649, by decide, rfl⟩, fun _ => wd_650, fun h => absurd h (by decide)⟩
theorem wd_651 : Cond.code yX7_dry cX7_dry 4 (some .int) ∈ jm_G := jm_memG (List.mem_of_getElem? (i := 994) (by decide +kernel)) (by decide +kernel)
theorem wd_652 : Cond.methodLink RL 101 yX7_dry ∈ jm_G := jm_memG (List.mem_of_getElem? (i := 991) (by decide +kernel)) (by decide +kernel)
theorem wd_653 : Cond.instanceMethod yX7_dry ∈ jm_G := jm_memG (List.mem_of_getElem? (i := 992) (by decide +kernel)) (by decide +kernel)
theorem wd_654 : Cond.selects RX7 yX7_dry yX7_dry ∈ jm_G := jm_memG (List.mem_of_getElem? (i := 993) (by decide +kernel)) (by decide +kernel)
theorem jm_m_11101 : jm_mok (11101, md_X7_dry, 1, 0) := ⟨by decide, wd_651, wd_317, rfl, by decide +kernel, ⟨by decide, by decide, by decide +kernel⟩, by decide, by decide, fun _ => wd_652, fun h => absurd h (by decide), fun _ => ⟨wd_653, by decide, rfl⟩, fun _ => wd_654, fun h => absurd h (by decide)⟩
theorem wd_655 : Cond.code yX6_open cX6_open 4 (some .int) ∈ jm_G := jm_memG (List.mem_of_getElem? (i := 505) (by decide +kernel)) (by decide +kernel)
theorem wd_656 : Cond.methodLink RL 102 yX6_open ∈ jm_G := jm_memG (List.mem_of_getElem? (i := 502) (by decide +kernel)) (by decide +kernel)
theorem wd_657 : Cond.instanceMethod yX6_open ∈ jm_G := jm_memG (List.mem_of_getElem? (i := 503) (by decide +kernel)) (by decide +kernel)
theorem wd_658 : Cond.selects RX6 yX6_open yX6_open ∈ jm_G := jm_memG (List.mem_of_getElem? (i := 504) (by decide +kernel)) (by decide +kernel)
theorem jm_m_11102 : jm_mok (11102, md_X6_open, 1, 0) := ⟨by decide, wd_655, wd_53, rfl, by decide +kernel, ⟨by decide, by decide, by decide +kernel⟩, by decide, by decide, fun _ => wd_656, fun h => absurd h (by decide), fun _ => ⟨wd_657, by decide, rfl⟩, fun _ => wd_658, fun h => absurd h (by decide)⟩
theorem wd_659 : Cond.code yX7_open cX7_open 2 (some .int) ∈ jm_G := jm_memG (List.mem_of_getElem? (i := 998) (by decide +kernel)) (by decide +kernel)
theorem wd_660 : Cond.methodLink RL 105 yX7_open ∈ jm_G := jm_memG (List.mem_of_getElem? (i := 995) (by decide +kernel)) (by decide +kernel)
theorem wd_661 : Cond.instanceMethod yX7_open ∈ jm_G := jm_memG (List.mem_of_getElem? (i := 996) (by decide +kernel)) (by decide +kernel)
theorem wd_662 : Cond.selects RX7 yX7_open yX7_open ∈ jm_G := jm_memG (List.mem_of_getElem? (i := 997) (by decide +kernel)) (by decide +kernel)
theorem jm_m_11105 : jm_mok (11105, md_X7_open, 1, 0) := ⟨by decide, wd_659, wd_317, rfl, by decide +kernel, ⟨by decide, by decide, by decide +kernel⟩, by decide, by decide, fun _ => wd_660, fun h => absurd h (by decide), fun _ => ⟨wd_661, by decide, rfl⟩, fun _ => wd_662, fun h => absurd h (by decide)⟩
theorem wd_663 : Cond.code yX6_first cX6_first 2 (some .int) ∈ jm_G := jm_memG (List.mem_of_getElem? (i := 509) (by decide +kernel)) (by decide +kernel)
theorem wd_664 : Cond.methodLink RL 106 yX6_first ∈ jm_G := jm_memG (List.mem_of_getElem? (i := 506) (by decide +kernel)) (by decide +kernel)
theorem wd_665 : Cond.instanceMethod yX6_first ∈ jm_G := jm_memG (List.mem_of_getElem? (i := 507) (by decide +kernel)) (by decide +kernel)
theorem wd_666 : Cond.selects RX6 yX6_first yX6_first ∈ jm_G := jm_memG (List.mem_of_getElem? (i := 508) (by decide +kernel)) (by decide +kernel)
theorem jm_m_11106 : jm_mok (11106, md_X6_first, 1, 0) := ⟨by decide, wd_663, wd_53, rfl, by decide +kernel, ⟨by decide, by decide, by decide +kernel⟩, by decide, by decide, fun _ => wd_664, fun h => absurd h (by decide), fun _ => ⟨wd_665, by decide, rfl⟩, fun _ => wd_666, fun h => absurd h (by decide)⟩
theorem wd_667 : Cond.code yX7_first cX7_first 3 (some .int) ∈ jm_G := jm_memG (List.mem_of_getElem? (i := 1006) (by decide +kernel)) (by decide +kernel)
theorem wd_668 : Cond.methodLink RL 109 yX7_first ∈ jm_G := jm_memG (List.mem_of_getElem? (i := 1003) (by decide +kernel)) (by decide +kernel)
theorem wd_669 : Cond.instanceMethod yX7_first ∈ jm_G := jm_memG (List.mem_of_getElem? (i := 1004) (by decide +kernel)) (by decide +kernel)
theorem wd_670 : Cond.selects RX7 yX7_first yX7_first ∈ jm_G := jm_memG (List.mem_of_getElem? (i := 1005) (by decide +kernel)) (by decide +kernel)
theorem jm_m_11109 : jm_mok (11109, md_X7_first, 1, 0) := ⟨by decide, wd_667, wd_317, rfl, by decide +kernel, ⟨by decide, by decide, by decide +kernel⟩, by decide, by decide, fun _ => wd_668, fun h => absurd h (by decide), fun _ => ⟨wd_669, by decide, rfl⟩, fun _ => wd_670, fun h => absurd h (by decide)⟩
theorem wd_671 : Cond.code yX6_latest cX6_latest 4 (some .int) ∈ jm_G := jm_memG (List.mem_of_getElem? (i := 518) (by decide +kernel)) (by decide +kernel)
theorem wd_672 : Cond.methodLink RL 110 yX6_latest ∈ jm_G := jm_memG (List.mem_of_getElem? (i := 515) (by decide +kernel)) (by decide +kernel)
theorem wd_673 : Cond.instanceMethod yX6_latest ∈ jm_G := jm_memG (List.mem_of_getElem? (i := 516) (by decide +kernel)) (by decide +kernel)
theorem wd_674 : Cond.selects RX6 yX6_latest yX6_latest ∈ jm_G := jm_memG (List.mem_of_getElem? (i := 517) (by decide +kernel)) (by decide +kernel)
theorem jm_m_11110 : jm_mok (11110, md_X6_latest, 2, 0) := ⟨by decide, wd_671, wd_53, rfl, by decide +kernel, ⟨by decide, by decide, by decide +kernel⟩, by decide, by decide, fun _ => wd_672, fun h => absurd h (by decide), fun _ => ⟨wd_673, by decide, rfl⟩, fun _ => wd_674, fun h => absurd h (by decide)⟩
theorem wd_675 : Cond.code yX7_latest cX7_latest 5 (some .int) ∈ jm_G := jm_memG (List.mem_of_getElem? (i := 1010) (by decide +kernel)) (by decide +kernel)
theorem wd_676 : Cond.methodLink RL 113 yX7_latest ∈ jm_G := jm_memG (List.mem_of_getElem? (i := 1007) (by decide +kernel)) (by decide +kernel)
theorem wd_677 : Cond.instanceMethod yX7_latest ∈ jm_G := jm_memG (List.mem_of_getElem? (i := 1008) (by decide +kernel)) (by decide +kernel)
theorem wd_678 : Cond.selects RX7 yX7_latest yX7_latest ∈ jm_G := jm_memG (List.mem_of_getElem? (i := 1009) (by decide +kernel)) (by decide +kernel)
theorem jm_m_11113 : jm_mok (11113, md_X7_latest, 2, 0) := ⟨by decide, wd_675, wd_317, rfl, by decide +kernel, ⟨by decide, by decide, by decide +kernel⟩, by decide, by decide, fun _ => wd_676, fun h => absurd h (by decide), fun _ => ⟨wd_677, by decide, rfl⟩, fun _ => wd_678, fun h => absurd h (by decide)⟩
theorem wd_679 : Cond.code yX6_winds cX6_winds 3 (some .int) ∈ jm_G := jm_memG (List.mem_of_getElem? (i := 526) (by decide +kernel)) (by decide +kernel)
theorem wd_680 : Cond.methodLink RL 114 yX6_winds ∈ jm_G := jm_memG (List.mem_of_getElem? (i := 523) (by decide +kernel)) (by decide +kernel)
theorem wd_681 : Cond.instanceMethod yX6_winds ∈ jm_G := jm_memG (List.mem_of_getElem? (i := 524) (by decide +kernel)) (by decide +kernel)
theorem wd_682 : Cond.selects RX6 yX6_winds yX6_winds ∈ jm_G := jm_memG (List.mem_of_getElem? (i := 525) (by decide +kernel)) (by decide +kernel)
theorem jm_m_11114 : jm_mok (11114, md_X6_winds, 2, 0) := ⟨by decide, wd_679, wd_53, rfl, by decide +kernel, ⟨by decide, by decide, by decide +kernel⟩, by decide, by decide, fun _ => wd_680, fun h => absurd h (by decide), fun _ => ⟨wd_681, by decide, rfl⟩, fun _ => wd_682, fun h => absurd h (by decide)⟩
theorem wd_683 : Cond.code yX7_winds cX7_winds 5 (some .int) ∈ jm_G := jm_memG (List.mem_of_getElem? (i := 1014) (by decide +kernel)) (by decide +kernel)
theorem wd_684 : Cond.methodLink RL 117 yX7_winds ∈ jm_G := jm_memG (List.mem_of_getElem? (i := 1011) (by decide +kernel)) (by decide +kernel)
theorem wd_685 : Cond.instanceMethod yX7_winds ∈ jm_G := jm_memG (List.mem_of_getElem? (i := 1012) (by decide +kernel)) (by decide +kernel)
theorem wd_686 : Cond.selects RX7 yX7_winds yX7_winds ∈ jm_G := jm_memG (List.mem_of_getElem? (i := 1013) (by decide +kernel)) (by decide +kernel)
theorem jm_m_11117 : jm_mok (11117, md_X7_winds, 2, 0) := ⟨by decide, wd_683, wd_317, rfl, by decide +kernel, ⟨by decide, by decide, by decide +kernel⟩, by decide, by decide, fun _ => wd_684, fun h => absurd h (by decide), fun _ => ⟨wd_685, by decide, rfl⟩, fun _ => wd_686, fun h => absurd h (by decide)⟩
theorem wd_687 : Cond.code yX6_recall cX6_recall 4 (some .int) ∈ jm_G := jm_memG (List.mem_of_getElem? (i := 534) (by decide +kernel)) (by decide +kernel)
theorem wd_688 : Cond.methodLink RL 118 yX6_recall ∈ jm_G := jm_memG (List.mem_of_getElem? (i := 531) (by decide +kernel)) (by decide +kernel)
theorem wd_689 : Cond.instanceMethod yX6_recall ∈ jm_G := jm_memG (List.mem_of_getElem? (i := 532) (by decide +kernel)) (by decide +kernel)
theorem wd_690 : Cond.selects RX6 yX6_recall yX6_recall ∈ jm_G := jm_memG (List.mem_of_getElem? (i := 533) (by decide +kernel)) (by decide +kernel)
theorem jm_m_11118 : jm_mok (11118, md_X6_recall, 3, 0) := ⟨by decide, wd_687, wd_53, rfl, by decide +kernel, ⟨by decide, by decide, by decide +kernel⟩, by decide, by decide, fun _ => wd_688, fun h => absurd h (by decide), fun _ => ⟨wd_689, by decide, rfl⟩, fun _ => wd_690, fun h => absurd h (by decide)⟩
theorem wd_691 : Cond.code yX7_recall cX7_recall 7 (some .int) ∈ jm_G := jm_memG (List.mem_of_getElem? (i := 1018) (by decide +kernel)) (by decide +kernel)
theorem wd_692 : Cond.methodLink RL 121 yX7_recall ∈ jm_G := jm_memG (List.mem_of_getElem? (i := 1015) (by decide +kernel)) (by decide +kernel)
theorem wd_693 : Cond.instanceMethod yX7_recall ∈ jm_G := jm_memG (List.mem_of_getElem? (i := 1016) (by decide +kernel)) (by decide +kernel)
theorem wd_694 : Cond.selects RX7 yX7_recall yX7_recall ∈ jm_G := jm_memG (List.mem_of_getElem? (i := 1017) (by decide +kernel)) (by decide +kernel)
theorem jm_m_11121 : jm_mok (11121, md_X7_recall, 3, 0) := ⟨by decide, wd_691, wd_317, rfl, by decide +kernel, ⟨by decide, by decide, by decide +kernel⟩, by decide, by decide, fun _ => wd_692, fun h => absurd h (by decide), fun _ => ⟨wd_693, by decide, rfl⟩, fun _ => wd_694, fun h => absurd h (by decide)⟩
theorem wd_695 : Cond.code yX6_fleet cX6_fleet 3 (some .int) ∈ jm_G := jm_memG (List.mem_of_getElem? (i := 559) (by decide +kernel)) (by decide +kernel)
theorem wd_696 : Cond.methodLink RL 122 yX6_fleet ∈ jm_G := jm_memG (List.mem_of_getElem? (i := 556) (by decide +kernel)) (by decide +kernel)
theorem wd_697 : Cond.instanceMethod yX6_fleet ∈ jm_G := jm_memG (List.mem_of_getElem? (i := 557) (by decide +kernel)) (by decide +kernel)
theorem wd_698 : Cond.selects RX6 yX6_fleet yX6_fleet ∈ jm_G := jm_memG (List.mem_of_getElem? (i := 558) (by decide +kernel)) (by decide +kernel)
theorem jm_m_11122 : jm_mok (11122, md_X6_fleet, 2, 0) := ⟨by decide, wd_695, wd_53, rfl, by decide +kernel, ⟨by decide, by decide, by decide +kernel⟩, by decide, by decide, fun _ => wd_696, fun h => absurd h (by decide), fun _ => ⟨wd_697, by decide, rfl⟩, fun _ => wd_698, fun h => absurd h (by decide)⟩
theorem wd_699 : Cond.code yX7_fleet cX7_fleet 5 (some .int) ∈ jm_G := jm_memG (List.mem_of_getElem? (i := 1028) (by decide +kernel)) (by decide +kernel)
theorem wd_700 : Cond.methodLink RL 125 yX7_fleet ∈ jm_G := jm_memG (List.mem_of_getElem? (i := 1025) (by decide +kernel)) (by decide +kernel)
theorem wd_701 : Cond.instanceMethod yX7_fleet ∈ jm_G := jm_memG (List.mem_of_getElem? (i := 1026) (by decide +kernel)) (by decide +kernel)
theorem wd_702 : Cond.selects RX7 yX7_fleet yX7_fleet ∈ jm_G := jm_memG (List.mem_of_getElem? (i := 1027) (by decide +kernel)) (by decide +kernel)
theorem jm_m_11125 : jm_mok (11125, md_X7_fleet, 2, 0) := ⟨by decide, wd_699, wd_317, rfl, by decide +kernel, ⟨by decide, by decide, by decide +kernel⟩, by decide, by decide, fun _ => wd_700, fun h => absurd h (by decide), fun _ => ⟨wd_701, by decide, rfl⟩, fun _ => wd_702, fun h => absurd h (by decide)⟩
theorem wd_703 : Cond.code yX6_sandFor cX6_sandFor 3 (some .int) ∈ jm_G := jm_memG (List.mem_of_getElem? (i := 567) (by decide +kernel)) (by decide +kernel)
theorem wd_704 : Cond.methodLink RL 126 yX6_sandFor ∈ jm_G := jm_memG (List.mem_of_getElem? (i := 564) (by decide +kernel)) (by decide +kernel)
theorem wd_705 : Cond.instanceMethod yX6_sandFor ∈ jm_G := jm_memG (List.mem_of_getElem? (i := 565) (by decide +kernel)) (by decide +kernel)
theorem wd_706 : Cond.selects RX6 yX6_sandFor yX6_sandFor ∈ jm_G := jm_memG (List.mem_of_getElem? (i := 566) (by decide +kernel)) (by decide +kernel)
theorem jm_m_11126 : jm_mok (11126, md_X6_sandFor, 1, 0) := ⟨by decide, wd_703, wd_53, rfl, by decide +kernel, ⟨by decide, by decide, by decide +kernel⟩, by decide, by decide, fun _ => wd_704, fun h => absurd h (by decide), fun _ => ⟨wd_705, by decide, rfl⟩, fun _ => wd_706, fun h => absurd h (by decide)⟩
theorem wd_707 : Cond.code yX7_sandFor cX7_sandFor 5 (some .int) ∈ jm_G := jm_memG (List.mem_of_getElem? (i := 1032) (by decide +kernel)) (by decide +kernel)
theorem wd_708 : Cond.methodLink RL 129 yX7_sandFor ∈ jm_G := jm_memG (List.mem_of_getElem? (i := 1029) (by decide +kernel)) (by decide +kernel)
theorem wd_709 : Cond.instanceMethod yX7_sandFor ∈ jm_G := jm_memG (List.mem_of_getElem? (i := 1030) (by decide +kernel)) (by decide +kernel)
theorem wd_710 : Cond.selects RX7 yX7_sandFor yX7_sandFor ∈ jm_G := jm_memG (List.mem_of_getElem? (i := 1031) (by decide +kernel)) (by decide +kernel)
theorem jm_m_11129 : jm_mok (11129, md_X7_sandFor, 1, 0) := ⟨by decide, wd_707, wd_317, rfl, by decide +kernel, ⟨by decide, by decide, by decide +kernel⟩, by decide, by decide, fun _ => wd_708, fun h => absurd h (by decide), fun _ => ⟨wd_709, by decide, rfl⟩, fun _ => wd_710, fun h => absurd h (by decide)⟩
theorem wd_711 : Cond.code yX6_who cX6_who 6 (some .int) ∈ jm_G := jm_memG (List.mem_of_getElem? (i := 576) (by decide +kernel)) (by decide +kernel)
theorem wd_712 : Cond.methodLink RL 130 yX6_who ∈ jm_G := jm_memG (List.mem_of_getElem? (i := 573) (by decide +kernel)) (by decide +kernel)
theorem wd_713 : Cond.instanceMethod yX6_who ∈ jm_G := jm_memG (List.mem_of_getElem? (i := 574) (by decide +kernel)) (by decide +kernel)
theorem wd_714 : Cond.selects RX6 yX6_who yX6_who ∈ jm_G := jm_memG (List.mem_of_getElem? (i := 575) (by decide +kernel)) (by decide +kernel)
theorem jm_m_11130 : jm_mok (11130, md_X6_who, 5, 0) := ⟨by decide, wd_711, wd_53, rfl, by decide +kernel, ⟨by decide, by decide, by decide +kernel⟩, by decide, by decide, fun _ => wd_712, fun h => absurd h (by decide), fun _ => ⟨wd_713, by decide, rfl⟩, fun _ => wd_714, fun h => absurd h (by decide)⟩
theorem wd_715 : Cond.code yX7_who cX7_who 10 (some .int) ∈ jm_G := jm_memG (List.mem_of_getElem? (i := 1036) (by decide +kernel)) (by decide +kernel)
theorem wd_716 : Cond.methodLink RL 133 yX7_who ∈ jm_G := jm_memG (List.mem_of_getElem? (i := 1033) (by decide +kernel)) (by decide +kernel)
theorem wd_717 : Cond.instanceMethod yX7_who ∈ jm_G := jm_memG (List.mem_of_getElem? (i := 1034) (by decide +kernel)) (by decide +kernel)
theorem wd_718 : Cond.selects RX7 yX7_who yX7_who ∈ jm_G := jm_memG (List.mem_of_getElem? (i := 1035) (by decide +kernel)) (by decide +kernel)
theorem jm_m_11133 : jm_mok (11133, md_X7_who, 5, 0) := ⟨by decide, wd_715, wd_317, rfl, by decide +kernel, ⟨by decide, by decide, by decide +kernel⟩, by decide, by decide, fun _ => wd_716, fun h => absurd h (by decide), fun _ => ⟨wd_717, by decide, rfl⟩, fun _ => wd_718, fun h => absurd h (by decide)⟩
theorem wd_719 : Cond.code yX6_barred cX6_barred 4 (some .int) ∈ jm_G := jm_memG (List.mem_of_getElem? (i := 588) (by decide +kernel)) (by decide +kernel)
theorem wd_720 : Cond.methodLink RL 134 yX6_barred ∈ jm_G := jm_memG (List.mem_of_getElem? (i := 585) (by decide +kernel)) (by decide +kernel)
theorem wd_721 : Cond.instanceMethod yX6_barred ∈ jm_G := jm_memG (List.mem_of_getElem? (i := 586) (by decide +kernel)) (by decide +kernel)
theorem wd_722 : Cond.selects RX6 yX6_barred yX6_barred ∈ jm_G := jm_memG (List.mem_of_getElem? (i := 587) (by decide +kernel)) (by decide +kernel)
theorem jm_m_11134 : jm_mok (11134, md_X6_barred, 3, 0) := ⟨by decide, wd_719, wd_53, rfl, by decide +kernel, ⟨by decide, by decide, by decide +kernel⟩, by decide, by decide, fun _ => wd_720, fun h => absurd h (by decide), fun _ => ⟨wd_721, by decide, rfl⟩, fun _ => wd_722, fun h => absurd h (by decide)⟩
theorem wd_723 : Cond.code yX7_barred cX7_barred 7 (some .int) ∈ jm_G := jm_memG (List.mem_of_getElem? (i := 1049) (by decide +kernel)) (by decide +kernel)
theorem wd_724 : Cond.methodLink RL 137 yX7_barred ∈ jm_G := jm_memG (List.mem_of_getElem? (i := 1046) (by decide +kernel)) (by decide +kernel)
theorem wd_725 : Cond.instanceMethod yX7_barred ∈ jm_G := jm_memG (List.mem_of_getElem? (i := 1047) (by decide +kernel)) (by decide +kernel)
theorem wd_726 : Cond.selects RX7 yX7_barred yX7_barred ∈ jm_G := jm_memG (List.mem_of_getElem? (i := 1048) (by decide +kernel)) (by decide +kernel)
theorem jm_m_11137 : jm_mok (11137, md_X7_barred, 3, 0) := ⟨by decide, wd_723, wd_317, rfl, by decide +kernel, ⟨by decide, by decide, by decide +kernel⟩, by decide, by decide, fun _ => wd_724, fun h => absurd h (by decide), fun _ => ⟨wd_725, by decide, rfl⟩, fun _ => wd_726, fun h => absurd h (by decide)⟩
theorem wd_727 : Cond.code yX6_rich cX6_rich 3 (some .int) ∈ jm_G := jm_memG (List.mem_of_getElem? (i := 597) (by decide +kernel)) (by decide +kernel)
theorem wd_728 : Cond.methodLink RL 138 yX6_rich ∈ jm_G := jm_memG (List.mem_of_getElem? (i := 594) (by decide +kernel)) (by decide +kernel)
theorem wd_729 : Cond.instanceMethod yX6_rich ∈ jm_G := jm_memG (List.mem_of_getElem? (i := 595) (by decide +kernel)) (by decide +kernel)
theorem wd_730 : Cond.selects RX6 yX6_rich yX6_rich ∈ jm_G := jm_memG (List.mem_of_getElem? (i := 596) (by decide +kernel)) (by decide +kernel)
theorem jm_m_11138 : jm_mok (11138, md_X6_rich, 0, 0) := ⟨by decide, wd_727, wd_53, rfl, by decide +kernel, ⟨by decide, by decide, by decide +kernel⟩, by decide, by decide, fun _ => wd_728, fun h => absurd h (by decide), fun _ => ⟨wd_729, by decide, rfl⟩, fun _ => wd_730, fun h => absurd h (by decide)⟩
theorem wd_731 : Cond.code yX7_rich cX7_rich 4 (some .int) ∈ jm_G := jm_memG (List.mem_of_getElem? (i := 1053) (by decide +kernel)) (by decide +kernel)
theorem wd_732 : Cond.methodLink RL 141 yX7_rich ∈ jm_G := jm_memG (List.mem_of_getElem? (i := 1050) (by decide +kernel)) (by decide +kernel)
theorem wd_733 : Cond.instanceMethod yX7_rich ∈ jm_G := jm_memG (List.mem_of_getElem? (i := 1051) (by decide +kernel)) (by decide +kernel)
theorem wd_734 : Cond.selects RX7 yX7_rich yX7_rich ∈ jm_G := jm_memG (List.mem_of_getElem? (i := 1052) (by decide +kernel)) (by decide +kernel)
theorem jm_m_11141 : jm_mok (11141, md_X7_rich, 0, 0) := ⟨by decide, wd_731, wd_317, rfl, by decide +kernel, ⟨by decide, by decide, by decide +kernel⟩, by decide, by decide, fun _ => wd_732, fun h => absurd h (by decide), fun _ => ⟨wd_733, by decide, rfl⟩, fun _ => wd_734, fun h => absurd h (by decide)⟩
theorem wd_735 : Cond.code yX6_wreck cX6_wreck 11 (some .long) ∈ jm_G := jm_memG (List.mem_of_getElem? (i := 601) (by decide +kernel)) (by decide +kernel)
theorem wd_736 : Cond.methodLink RL 142 yX6_wreck ∈ jm_G := jm_memG (List.mem_of_getElem? (i := 598) (by decide +kernel)) (by decide +kernel)
theorem wd_737 : Cond.instanceMethod yX6_wreck ∈ jm_G := jm_memG (List.mem_of_getElem? (i := 599) (by decide +kernel)) (by decide +kernel)
theorem wd_738 : Cond.selects RX6 yX6_wreck yX6_wreck ∈ jm_G := jm_memG (List.mem_of_getElem? (i := 600) (by decide +kernel)) (by decide +kernel)
theorem jm_m_11142 : jm_mok (11142, md_X6_wreck, 4, 0) := ⟨by decide, wd_735, wd_53, rfl, by decide +kernel, ⟨by decide, by decide, by decide +kernel⟩, by decide, by decide, fun _ => wd_736, fun h => absurd h (by decide), fun _ => ⟨wd_737, by decide, rfl⟩, fun _ => wd_738, fun h => absurd h (by decide)⟩
theorem wd_739 : Cond.code yX7_wreck cX7_wreck 16 (some .long) ∈ jm_G := jm_memG (List.mem_of_getElem? (i := 1057) (by decide +kernel)) (by decide +kernel)
theorem wd_740 : Cond.methodLink RL 146 yX7_wreck ∈ jm_G := jm_memG (List.mem_of_getElem? (i := 1054) (by decide +kernel)) (by decide +kernel)
theorem wd_741 : Cond.instanceMethod yX7_wreck ∈ jm_G := jm_memG (List.mem_of_getElem? (i := 1055) (by decide +kernel)) (by decide +kernel)
theorem wd_742 : Cond.selects RX7 yX7_wreck yX7_wreck ∈ jm_G := jm_memG (List.mem_of_getElem? (i := 1056) (by decide +kernel)) (by decide +kernel)
theorem jm_m_11146 : jm_mok (11146, md_X7_wreck, 4, 0) := ⟨by decide, wd_739, wd_317, rfl, by decide +kernel, ⟨by decide, by decide, by decide +kernel⟩, by decide, by decide, fun _ => wd_740, fun h => absurd h (by decide), fun _ => ⟨wd_741, by decide, rfl⟩, fun _ => wd_742, fun h => absurd h (by decide)⟩
theorem wd_743 : Cond.code yX6_drawn cX6_drawn 4 (some .int) ∈ jm_G := jm_memG (List.mem_of_getElem? (i := 622) (by decide +kernel)) (by decide +kernel)
theorem wd_744 : Cond.methodLink RL 147 yX6_drawn ∈ jm_G := jm_memG (List.mem_of_getElem? (i := 619) (by decide +kernel)) (by decide +kernel)
theorem wd_745 : Cond.instanceMethod yX6_drawn ∈ jm_G := jm_memG (List.mem_of_getElem? (i := 620) (by decide +kernel)) (by decide +kernel)
theorem wd_746 : Cond.selects RX6 yX6_drawn yX6_drawn ∈ jm_G := jm_memG (List.mem_of_getElem? (i := 621) (by decide +kernel)) (by decide +kernel)
theorem jm_m_11147 : jm_mok (11147, md_X6_drawn, 3, 0) := ⟨by decide, wd_743, wd_53, rfl, by decide +kernel, ⟨by decide, by decide, by decide +kernel⟩, by decide, by decide, fun _ => wd_744, fun h => absurd h (by decide), fun _ => ⟨wd_745, by decide, rfl⟩, fun _ => wd_746, fun h => absurd h (by decide)⟩
theorem wd_747 : Cond.code yX7_drawn cX7_drawn 10 (some .int) ∈ jm_G := jm_memG (List.mem_of_getElem? (i := 1063) (by decide +kernel)) (by decide +kernel)
theorem wd_748 : Cond.methodLink RL 150 yX7_drawn ∈ jm_G := jm_memG (List.mem_of_getElem? (i := 1060) (by decide +kernel)) (by decide +kernel)
theorem wd_749 : Cond.instanceMethod yX7_drawn ∈ jm_G := jm_memG (List.mem_of_getElem? (i := 1061) (by decide +kernel)) (by decide +kernel)
theorem wd_750 : Cond.selects RX7 yX7_drawn yX7_drawn ∈ jm_G := jm_memG (List.mem_of_getElem? (i := 1062) (by decide +kernel)) (by decide +kernel)
theorem jm_m_11150 : jm_mok (11150, md_X7_drawn, 3, 0) := ⟨by decide, wd_747, wd_317, rfl, by decide +kernel, ⟨by decide, by decide, by decide +kernel⟩, by decide, by decide, fun _ => wd_748, fun h => absurd h (by decide), fun _ => ⟨wd_749, by decide, rfl⟩, fun _ => wd_750, fun h => absurd h (by decide)⟩
theorem wd_751 : Cond.code yX6_image cX6_image 2 (some .int) ∈ jm_G := jm_memG (List.mem_of_getElem? (i := 639) (by decide +kernel)) (by decide +kernel)
theorem wd_752 : Cond.methodLink RL 151 yX6_image ∈ jm_G := jm_memG (List.mem_of_getElem? (i := 636) (by decide +kernel)) (by decide +kernel)
theorem wd_753 : Cond.instanceMethod yX6_image ∈ jm_G := jm_memG (List.mem_of_getElem? (i := 637) (by decide +kernel)) (by decide +kernel)
theorem wd_754 : Cond.selects RX6 yX6_image yX6_image ∈ jm_G := jm_memG (List.mem_of_getElem? (i := 638) (by decide +kernel)) (by decide +kernel)
theorem jm_m_11151 : jm_mok (11151, md_X6_image, 1, 0) := ⟨by decide, wd_751, wd_53, rfl, by decide +kernel, ⟨by decide, by decide, by decide +kernel⟩, by decide, by decide, fun _ => wd_752, fun h => absurd h (by decide), fun _ => ⟨wd_753, by decide, rfl⟩, fun _ => wd_754, fun h => absurd h (by decide)⟩
theorem wd_755 : Cond.code yX7_image cX7_image 3 (some .int) ∈ jm_G := jm_memG (List.mem_of_getElem? (i := 1076) (by decide +kernel)) (by decide +kernel)
theorem wd_756 : Cond.methodLink RL 154 yX7_image ∈ jm_G := jm_memG (List.mem_of_getElem? (i := 1073) (by decide +kernel)) (by decide +kernel)
theorem wd_757 : Cond.instanceMethod yX7_image ∈ jm_G := jm_memG (List.mem_of_getElem? (i := 1074) (by decide +kernel)) (by decide +kernel)
theorem wd_758 : Cond.selects RX7 yX7_image yX7_image ∈ jm_G := jm_memG (List.mem_of_getElem? (i := 1075) (by decide +kernel)) (by decide +kernel)
theorem jm_m_11154 : jm_mok (11154, md_X7_image, 1, 0) := ⟨by decide, wd_755, wd_317, rfl, by decide +kernel, ⟨by decide, by decide, by decide +kernel⟩, by decide, by decide, fun _ => wd_756, fun h => absurd h (by decide), fun _ => ⟨wd_757, by decide, rfl⟩, fun _ => wd_758, fun h => absurd h (by decide)⟩
theorem wd_759 : Cond.code yX6_restore cX6_restore 2 (some .int) ∈ jm_G := jm_memG (List.mem_of_getElem? (i := 643) (by decide +kernel)) (by decide +kernel)
theorem wd_760 : Cond.methodLink RL 155 yX6_restore ∈ jm_G := jm_memG (List.mem_of_getElem? (i := 640) (by decide +kernel)) (by decide +kernel)
theorem wd_761 : Cond.instanceMethod yX6_restore ∈ jm_G := jm_memG (List.mem_of_getElem? (i := 641) (by decide +kernel)) (by decide +kernel)
theorem wd_762 : Cond.selects RX6 yX6_restore yX6_restore ∈ jm_G := jm_memG (List.mem_of_getElem? (i := 642) (by decide +kernel)) (by decide +kernel)
theorem jm_m_11155 : jm_mok (11155, md_X6_restore, 1, 0) := ⟨by decide, wd_759, wd_53, rfl, by decide +kernel, ⟨by decide, by decide, by decide +kernel⟩, by decide, by decide, fun _ => wd_760, fun h => absurd h (by decide), fun _ => ⟨wd_761, by decide, rfl⟩, fun _ => wd_762, fun h => absurd h (by decide)⟩
theorem wd_763 : Cond.code yX7_restore cX7_restore 3 (some .int) ∈ jm_G := jm_memG (List.mem_of_getElem? (i := 1080) (by decide +kernel)) (by decide +kernel)
theorem wd_764 : Cond.methodLink RL 158 yX7_restore ∈ jm_G := jm_memG (List.mem_of_getElem? (i := 1077) (by decide +kernel)) (by decide +kernel)
theorem wd_765 : Cond.instanceMethod yX7_restore ∈ jm_G := jm_memG (List.mem_of_getElem? (i := 1078) (by decide +kernel)) (by decide +kernel)
theorem wd_766 : Cond.selects RX7 yX7_restore yX7_restore ∈ jm_G := jm_memG (List.mem_of_getElem? (i := 1079) (by decide +kernel)) (by decide +kernel)
theorem jm_m_11158 : jm_mok (11158, md_X7_restore, 1, 0) := ⟨by decide, wd_763, wd_317, rfl, by decide +kernel, ⟨by decide, by decide, by decide +kernel⟩, by decide, by decide, fun _ => wd_764, fun h => absurd h (by decide), fun _ => ⟨wd_765, by decide, rfl⟩, fun _ => wd_766, fun h => absurd h (by decide)⟩
theorem wd_767 : Cond.code yX6_kind cX6_kind 2 (some .int) ∈ jm_G := jm_memG (List.mem_of_getElem? (i := 647) (by decide +kernel)) (by decide +kernel)
theorem wd_768 : Cond.methodLink RL 159 yX6_kind ∈ jm_G := jm_memG (List.mem_of_getElem? (i := 644) (by decide +kernel)) (by decide +kernel)
theorem wd_769 : Cond.instanceMethod yX6_kind ∈ jm_G := jm_memG (List.mem_of_getElem? (i := 645) (by decide +kernel)) (by decide +kernel)
theorem wd_770 : Cond.selects RX6 yX6_kind yX6_kind ∈ jm_G := jm_memG (List.mem_of_getElem? (i := 646) (by decide +kernel)) (by decide +kernel)
theorem jm_m_11159 : jm_mok (11159, md_X6_kind, 1, 0) := ⟨by decide, wd_767, wd_53, rfl, by decide +kernel, ⟨by decide, by decide, by decide +kernel⟩, by decide, by decide, fun _ => wd_768, fun h => absurd h (by decide), fun _ => ⟨wd_769, by decide, rfl⟩, fun _ => wd_770, fun h => absurd h (by decide)⟩
theorem wd_771 : Cond.code yX7_kind cX7_kind 2 (some .int) ∈ jm_G := jm_memG (List.mem_of_getElem? (i := 1084) (by decide +kernel)) (by decide +kernel)
theorem wd_772 : Cond.methodLink RL 162 yX7_kind ∈ jm_G := jm_memG (List.mem_of_getElem? (i := 1081) (by decide +kernel)) (by decide +kernel)
theorem wd_773 : Cond.instanceMethod yX7_kind ∈ jm_G := jm_memG (List.mem_of_getElem? (i := 1082) (by decide +kernel)) (by decide +kernel)
theorem wd_774 : Cond.selects RX7 yX7_kind yX7_kind ∈ jm_G := jm_memG (List.mem_of_getElem? (i := 1083) (by decide +kernel)) (by decide +kernel)
theorem jm_m_11162 : jm_mok (11162, md_X7_kind, 1, 0) := ⟨by decide, wd_771, wd_317, rfl, by decide +kernel, ⟨by decide, by decide, by decide +kernel⟩, by decide, by decide, fun _ => wd_772, fun h => absurd h (by decide), fun _ => ⟨wd_773, by decide, rfl⟩, fun _ => wd_774, fun h => absurd h (by decide)⟩
theorem wd_775 : Cond.code yX6_as cX6_as 3 (some .int) ∈ jm_G := jm_memG (List.mem_of_getElem? (i := 651) (by decide +kernel)) (by decide +kernel)
theorem wd_776 : Cond.methodLink RL 163 yX6_as ∈ jm_G := jm_memG (List.mem_of_getElem? (i := 648) (by decide +kernel)) (by decide +kernel)
theorem wd_777 : Cond.instanceMethod yX6_as ∈ jm_G := jm_memG (List.mem_of_getElem? (i := 649) (by decide +kernel)) (by decide +kernel)
theorem wd_778 : Cond.selects RX6 yX6_as yX6_as ∈ jm_G := jm_memG (List.mem_of_getElem? (i := 650) (by decide +kernel)) (by decide +kernel)
theorem jm_m_11163 : jm_mok (11163, md_X6_as, 2, 0) := ⟨by decide, wd_775, wd_53, rfl, by decide +kernel, ⟨by decide, by decide, by decide +kernel⟩, by decide, by decide, fun _ => wd_776, fun h => absurd h (by decide), fun _ => ⟨wd_777, by decide, rfl⟩, fun _ => wd_778, fun h => absurd h (by decide)⟩
theorem wd_779 : Cond.code yX7_as cX7_as 3 (some .int) ∈ jm_G := jm_memG (List.mem_of_getElem? (i := 1088) (by decide +kernel)) (by decide +kernel)
theorem wd_780 : Cond.methodLink RL 166 yX7_as ∈ jm_G := jm_memG (List.mem_of_getElem? (i := 1085) (by decide +kernel)) (by decide +kernel)
theorem wd_781 : Cond.instanceMethod yX7_as ∈ jm_G := jm_memG (List.mem_of_getElem? (i := 1086) (by decide +kernel)) (by decide +kernel)
theorem wd_782 : Cond.selects RX7 yX7_as yX7_as ∈ jm_G := jm_memG (List.mem_of_getElem? (i := 1087) (by decide +kernel)) (by decide +kernel)
theorem jm_m_11166 : jm_mok (11166, md_X7_as, 2, 0) := ⟨by decide, wd_779, wd_317, rfl, by decide +kernel, ⟨by decide, by decide, by decide +kernel⟩, by decide, by decide, fun _ => wd_780, fun h => absurd h (by decide), fun _ => ⟨wd_781, by decide, rfl⟩, fun _ => wd_782, fun h => absurd h (by decide)⟩
theorem wd_783 : Cond.code yX6_ask cX6_ask 3 (some .int) ∈ jm_G := jm_memG (List.mem_of_getElem? (i := 660) (by decide +kernel)) (by decide +kernel)
theorem wd_784 : Cond.methodLink RL 167 yX6_ask ∈ jm_G := jm_memG (List.mem_of_getElem? (i := 657) (by decide +kernel)) (by decide +kernel)
theorem wd_785 : Cond.instanceMethod yX6_ask ∈ jm_G := jm_memG (List.mem_of_getElem? (i := 658) (by decide +kernel)) (by decide +kernel)
theorem wd_786 : Cond.selects RX6 yX6_ask yX6_ask ∈ jm_G := jm_memG (List.mem_of_getElem? (i := 659) (by decide +kernel)) (by decide +kernel)
theorem jm_m_11167 : jm_mok (11167, md_X6_ask, 2, 0) := ⟨by decide, wd_783, wd_53, rfl, by decide +kernel, ⟨by decide, by decide, by decide +kernel⟩, by decide, by decide, fun _ => wd_784, fun h => absurd h (by decide), fun _ => ⟨wd_785, by decide, rfl⟩, fun _ => wd_786, fun h => absurd h (by decide)⟩
theorem wd_787 : Cond.code yX7_ask cX7_ask 3 (some .int) ∈ jm_G := jm_memG (List.mem_of_getElem? (i := 1095) (by decide +kernel)) (by decide +kernel)
theorem wd_788 : Cond.methodLink RL 170 yX7_ask ∈ jm_G := jm_memG (List.mem_of_getElem? (i := 1092) (by decide +kernel)) (by decide +kernel)
theorem wd_789 : Cond.instanceMethod yX7_ask ∈ jm_G := jm_memG (List.mem_of_getElem? (i := 1093) (by decide +kernel)) (by decide +kernel)
theorem wd_790 : Cond.selects RX7 yX7_ask yX7_ask ∈ jm_G := jm_memG (List.mem_of_getElem? (i := 1094) (by decide +kernel)) (by decide +kernel)
theorem jm_m_11170 : jm_mok (11170, md_X7_ask, 2, 0) := ⟨by decide, wd_787, wd_317, rfl, by decide +kernel, ⟨by decide, by decide, by decide +kernel⟩, by decide, by decide, fun _ => wd_788, fun h => absurd h (by decide), fun _ => ⟨wd_789, by decide, rfl⟩, fun _ => wd_790, fun h => absurd h (by decide)⟩
theorem wd_791 : Cond.code yX6_trace cX6_trace 2 (some .int) ∈ jm_G := jm_memG (List.mem_of_getElem? (i := 688) (by decide +kernel)) (by decide +kernel)
theorem wd_792 : Cond.methodLink RL 171 yX6_trace ∈ jm_G := jm_memG (List.mem_of_getElem? (i := 685) (by decide +kernel)) (by decide +kernel)
theorem wd_793 : Cond.instanceMethod yX6_trace ∈ jm_G := jm_memG (List.mem_of_getElem? (i := 686) (by decide +kernel)) (by decide +kernel)
theorem wd_794 : Cond.selects RX6 yX6_trace yX6_trace ∈ jm_G := jm_memG (List.mem_of_getElem? (i := 687) (by decide +kernel)) (by decide +kernel)
theorem jm_m_11171 : jm_mok (11171, md_X6_trace, 1, 0) := ⟨by decide, wd_791, wd_53, rfl, by decide +kernel, ⟨by decide, by decide, by decide +kernel⟩, by decide, by decide, fun _ => wd_792, fun h => absurd h (by decide), fun _ => ⟨wd_793, by decide, rfl⟩, fun _ => wd_794, fun h => absurd h (by decide)⟩
theorem wd_795 : Cond.code yX7_trace cX7_trace 2 (some .int) ∈ jm_G := jm_memG (List.mem_of_getElem? (i := 1131) (by decide +kernel)) (by decide +kernel)
theorem wd_796 : Cond.methodLink RL 174 yX7_trace ∈ jm_G := jm_memG (List.mem_of_getElem? (i := 1128) (by decide +kernel)) (by decide +kernel)
theorem wd_797 : Cond.instanceMethod yX7_trace ∈ jm_G := jm_memG (List.mem_of_getElem? (i := 1129) (by decide +kernel)) (by decide +kernel)
theorem wd_798 : Cond.selects RX7 yX7_trace yX7_trace ∈ jm_G := jm_memG (List.mem_of_getElem? (i := 1130) (by decide +kernel)) (by decide +kernel)
theorem jm_m_11174 : jm_mok (11174, md_X7_trace, 1, 0) := ⟨by decide, wd_795, wd_317, rfl, by decide +kernel, ⟨by decide, by decide, by decide +kernel⟩, by decide, by decide, fun _ => wd_796, fun h => absurd h (by decide), fun _ => ⟨wd_797, by decide, rfl⟩, fun _ => wd_798, fun h => absurd h (by decide)⟩
theorem wd_799 : Cond.code yX6_count cX6_count 2 (some .int) ∈ jm_G := jm_memG (List.mem_of_getElem? (i := 692) (by decide +kernel)) (by decide +kernel)
theorem wd_800 : Cond.methodLink RL 175 yX6_count ∈ jm_G := jm_memG (List.mem_of_getElem? (i := 689) (by decide +kernel)) (by decide +kernel)
theorem wd_801 : Cond.instanceMethod yX6_count ∈ jm_G := jm_memG (List.mem_of_getElem? (i := 690) (by decide +kernel)) (by decide +kernel)
theorem wd_802 : Cond.selects RX6 yX6_count yX6_count ∈ jm_G := jm_memG (List.mem_of_getElem? (i := 691) (by decide +kernel)) (by decide +kernel)
theorem jm_m_11175 : jm_mok (11175, md_X6_count, 1, 0) := ⟨by decide, wd_799, wd_53, rfl, by decide +kernel, ⟨by decide, by decide, by decide +kernel⟩, by decide, by decide, fun _ => wd_800, fun h => absurd h (by decide), fun _ => ⟨wd_801, by decide, rfl⟩, fun _ => wd_802, fun h => absurd h (by decide)⟩
theorem wd_803 : Cond.code yX7_count cX7_count 4 (some .int) ∈ jm_G := jm_memG (List.mem_of_getElem? (i := 1135) (by decide +kernel)) (by decide +kernel)
theorem wd_804 : Cond.methodLink RL 178 yX7_count ∈ jm_G := jm_memG (List.mem_of_getElem? (i := 1132) (by decide +kernel)) (by decide +kernel)
theorem wd_805 : Cond.instanceMethod yX7_count ∈ jm_G := jm_memG (List.mem_of_getElem? (i := 1133) (by decide +kernel)) (by decide +kernel)
theorem wd_806 : Cond.selects RX7 yX7_count yX7_count ∈ jm_G := jm_memG (List.mem_of_getElem? (i := 1134) (by decide +kernel)) (by decide +kernel)
theorem jm_m_11178 : jm_mok (11178, md_X7_count, 1, 0) := ⟨by decide, wd_803, wd_317, rfl, by decide +kernel, ⟨by decide, by decide, by decide +kernel⟩, by decide, by decide, fun _ => wd_804, fun h => absurd h (by decide), fun _ => ⟨wd_805, by decide, rfl⟩, fun _ => wd_806, fun h => absurd h (by decide)⟩
theorem wd_807 : Cond.code yX6_status cX6_status 1 (some .int) ∈ jm_G := jm_memG (List.mem_of_getElem? (i := 706) (by decide +kernel)) (by decide +kernel)
theorem wd_808 : Cond.methodLink RL 179 yX6_status ∈ jm_G := jm_memG (List.mem_of_getElem? (i := 703) (by decide +kernel)) (by decide +kernel)
theorem wd_809 : Cond.instanceMethod yX6_status ∈ jm_G := jm_memG (List.mem_of_getElem? (i := 704) (by decide +kernel)) (by decide +kernel)
theorem wd_810 : Cond.selects RX6 yX6_status yX6_status ∈ jm_G := jm_memG (List.mem_of_getElem? (i := 705) (by decide +kernel)) (by decide +kernel)
theorem jm_m_11179 : jm_mok (11179, md_X6_status, 0, 0) := ⟨by decide, wd_807, wd_53, rfl, by decide +kernel, ⟨by decide, by decide, by decide +kernel⟩, by decide, by decide, fun _ => wd_808, fun h => absurd h (by decide), fun _ => ⟨wd_809, by decide, rfl⟩, fun _ => wd_810, fun h => absurd h (by decide)⟩
theorem wd_811 : Cond.code yX7_status cX7_status 1 (some .int) ∈ jm_G := jm_memG (List.mem_of_getElem? (i := 1139) (by decide +kernel)) (by decide +kernel)
theorem wd_812 : Cond.methodLink RL 182 yX7_status ∈ jm_G := jm_memG (List.mem_of_getElem? (i := 1136) (by decide +kernel)) (by decide +kernel)
theorem wd_813 : Cond.instanceMethod yX7_status ∈ jm_G := jm_memG (List.mem_of_getElem? (i := 1137) (by decide +kernel)) (by decide +kernel)
theorem wd_814 : Cond.selects RX7 yX7_status yX7_status ∈ jm_G := jm_memG (List.mem_of_getElem? (i := 1138) (by decide +kernel)) (by decide +kernel)
theorem jm_m_11182 : jm_mok (11182, md_X7_status, 0, 0) := ⟨by decide, wd_811, wd_317, rfl, by decide +kernel, ⟨by decide, by decide, by decide +kernel⟩, by decide, by decide, fun _ => wd_812, fun h => absurd h (by decide), fun _ => ⟨wd_813, by decide, rfl⟩, fun _ => wd_814, fun h => absurd h (by decide)⟩
