/-! the law: its bytes -/
set_option maxRecDepth 100000 in
theorem lw_d0 : lw_D 212 3 13 17 1176 := ⟨by decide +kernel, fun j hj => (by rcases (by omega : j = 0 ∨ j = 1 ∨ j = 2) with rfl | rfl | rfl <;> exact ⟨by decide +kernel, by decide +kernel, by decide +kernel, by decide +kernel, by decide +kernel⟩), by decide +kernel, by decide +kernel, fun j hj => (by rcases (by omega : j = 0 ∨ j = 1 ∨ j = 2) with rfl | rfl | rfl <;> exact ⟨by decide +kernel, by decide +kernel, by decide +kernel, by decide +kernel, by decide +kernel⟩), by decide +kernel, by decide +kernel, by decide⟩
set_option maxRecDepth 100000 in
theorem lw_m0 : (11000 + 13, md_X6_row, 3, 0) ∈ jm_mthT ∧ (11000 + 17, md_X7_row, 3, 0) ∈ jm_mthT := ⟨List.mem_of_getElem? (i := 142) rfl, List.mem_of_getElem? (i := 143) rfl⟩
set_option maxRecDepth 100000 in
theorem lw_d1 : lw_D 255 3 18 21 1133 := ⟨by decide +kernel, fun j hj => (by rcases (by omega : j = 0 ∨ j = 1 ∨ j = 2) with rfl | rfl | rfl <;> exact ⟨by decide +kernel, by decide +kernel, by decide +kernel, by decide +kernel, by decide +kernel⟩), by decide +kernel, by decide +kernel, fun j hj => (by rcases (by omega : j = 0 ∨ j = 1 ∨ j = 2) with rfl | rfl | rfl <;> exact ⟨by decide +kernel, by decide +kernel, by decide +kernel, by decide +kernel, by decide +kernel⟩), by decide +kernel, by decide +kernel, by decide⟩
set_option maxRecDepth 100000 in
theorem lw_m1 : (11000 + 18, md_X6_set, 3, 0) ∈ jm_mthT ∧ (11000 + 21, md_X7_set, 3, 0) ∈ jm_mthT := ⟨List.mem_of_getElem? (i := 144) rfl, List.mem_of_getElem? (i := 145) rfl⟩
set_option maxRecDepth 100000 in
theorem lw_d2 : lw_D 298 5 22 26 1070 := ⟨by decide +kernel, fun j hj => (by rcases (by omega : j = 0 ∨ j = 1 ∨ j = 2 ∨ j = 3 ∨ j = 4) with rfl | rfl | rfl | rfl | rfl <;> exact ⟨by decide +kernel, by decide +kernel, by decide +kernel, by decide +kernel, by decide +kernel⟩), by decide +kernel, by decide +kernel, fun j hj => (by rcases (by omega : j = 0 ∨ j = 1 ∨ j = 2 ∨ j = 3 ∨ j = 4) with rfl | rfl | rfl | rfl | rfl <;> exact ⟨by decide +kernel, by decide +kernel, by decide +kernel, by decide +kernel, by decide +kernel⟩), by decide +kernel, by decide +kernel, by decide⟩
set_option maxRecDepth 100000 in
theorem lw_m2 : (11000 + 22, md_X6_copy, 5, 0) ∈ jm_mthT ∧ (11000 + 26, md_X7_copy, 5, 0) ∈ jm_mthT := ⟨List.mem_of_getElem? (i := 146) rfl, List.mem_of_getElem? (i := 147) rfl⟩
set_option maxRecDepth 100000 in
theorem lw_d3 : lw_D 361 1 27 31 1047 := ⟨by decide +kernel, fun j hj => (by obtain rfl : j = 0 := (by omega); exact ⟨by decide +kernel, by decide +kernel, by decide +kernel, by decide +kernel, by decide +kernel⟩), by decide +kernel, by decide +kernel, fun j hj => (by obtain rfl : j = 0 := (by omega); exact ⟨by decide +kernel, by decide +kernel, by decide +kernel, by decide +kernel, by decide +kernel⟩), by decide +kernel, by decide +kernel, by decide⟩
set_option maxRecDepth 100000 in
theorem lw_m3 : (11000 + 27, md_X6_drop, 1, 0) ∈ jm_mthT ∧ (11000 + 31, md_X7_drop, 1, 0) ∈ jm_mthT := ⟨List.mem_of_getElem? (i := 148) rfl, List.mem_of_getElem? (i := 149) rfl⟩
set_option maxRecDepth 100000 in
theorem lw_d4 : lw_D 384 1 32 35 1024 := ⟨by decide +kernel, fun j hj => (by obtain rfl : j = 0 := (by omega); exact ⟨by decide +kernel, by decide +kernel, by decide +kernel, by decide +kernel, by decide +kernel⟩), by decide +kernel, by decide +kernel, fun j hj => (by obtain rfl : j = 0 := (by omega); exact ⟨by decide +kernel, by decide +kernel, by decide +kernel, by decide +kernel, by decide +kernel⟩), by decide +kernel, by decide +kernel, by decide⟩
set_option maxRecDepth 100000 in
theorem lw_m4 : (11000 + 32, md_X6_feed, 1, 0) ∈ jm_mthT ∧ (11000 + 35, md_X7_feed, 1, 0) ∈ jm_mthT := ⟨List.mem_of_getElem? (i := 150) rfl, List.mem_of_getElem? (i := 151) rfl⟩
set_option maxRecDepth 100000 in
theorem lw_d5 : lw_D 407 0 36 40 1011 := ⟨by decide +kernel, fun j hj => absurd hj (by omega), by decide +kernel, by decide +kernel, fun j hj => absurd hj (by omega), by decide +kernel, by decide +kernel, by decide⟩
set_option maxRecDepth 100000 in
theorem lw_m5 : (11000 + 36, md_X6_isle, 0, 0) ∈ jm_mthT ∧ (11000 + 40, md_X7_isle, 0, 0) ∈ jm_mthT := ⟨List.mem_of_getElem? (i := 152) rfl, List.mem_of_getElem? (i := 153) rfl⟩
set_option maxRecDepth 100000 in
theorem lw_d6 : lw_D 420 0 41 44 998 := ⟨by decide +kernel, fun j hj => absurd hj (by omega), by decide +kernel, by decide +kernel, fun j hj => absurd hj (by omega), by decide +kernel, by decide +kernel, by decide⟩
set_option maxRecDepth 100000 in
theorem lw_m6 : (11000 + 41, md_X6_fault, 0, 0) ∈ jm_mthT ∧ (11000 + 44, md_X7_fault, 0, 0) ∈ jm_mthT := ⟨List.mem_of_getElem? (i := 154) rfl, List.mem_of_getElem? (i := 155) rfl⟩
set_option maxRecDepth 100000 in
theorem lw_d7 : lw_D 433 0 45 48 985 := ⟨by decide +kernel, fun j hj => absurd hj (by omega), by decide +kernel, by decide +kernel, fun j hj => absurd hj (by omega), by decide +kernel, by decide +kernel, by decide⟩
set_option maxRecDepth 100000 in
theorem lw_m7 : (11000 + 45, md_X6_undo, 0, 0) ∈ jm_mthT ∧ (11000 + 48, md_X7_undo, 0, 0) ∈ jm_mthT := ⟨List.mem_of_getElem? (i := 156) rfl, List.mem_of_getElem? (i := 157) rfl⟩
set_option maxRecDepth 100000 in
theorem lw_d8 : lw_D 446 1 49 52 962 := ⟨by decide +kernel, fun j hj => (by obtain rfl : j = 0 := (by omega); exact ⟨by decide +kernel, by decide +kernel, by decide +kernel, by decide +kernel, by decide +kernel⟩), by decide +kernel, by decide +kernel, fun j hj => (by obtain rfl : j = 0 := (by omega); exact ⟨by decide +kernel, by decide +kernel, by decide +kernel, by decide +kernel, by decide +kernel⟩), by decide +kernel, by decide +kernel, by decide⟩
set_option maxRecDepth 100000 in
theorem lw_m8 : (11000 + 49, md_X6_hours, 1, 0) ∈ jm_mthT ∧ (11000 + 52, md_X7_hours, 1, 0) ∈ jm_mthT := ⟨List.mem_of_getElem? (i := 158) rfl, List.mem_of_getElem? (i := 159) rfl⟩
set_option maxRecDepth 100000 in
theorem lw_d9 : lw_D 469 2 53 57 929 := ⟨by decide +kernel, fun j hj => (by rcases (by omega : j = 0 ∨ j = 1) with rfl | rfl <;> exact ⟨by decide +kernel, by decide +kernel, by decide +kernel, by decide +kernel, by decide +kernel⟩), by decide +kernel, by decide +kernel, fun j hj => (by rcases (by omega : j = 0 ∨ j = 1) with rfl | rfl <;> exact ⟨by decide +kernel, by decide +kernel, by decide +kernel, by decide +kernel, by decide +kernel⟩), by decide +kernel, by decide +kernel, by decide⟩
set_option maxRecDepth 100000 in
theorem lw_m9 : (11000 + 53, md_X6_send, 2, 0) ∈ jm_mthT ∧ (11000 + 57, md_X7_send, 2, 0) ∈ jm_mthT := ⟨List.mem_of_getElem? (i := 160) rfl, List.mem_of_getElem? (i := 161) rfl⟩
set_option maxRecDepth 100000 in
theorem lw_d10 : lw_D 502 1 58 61 906 := ⟨by decide +kernel, fun j hj => (by obtain rfl : j = 0 := (by omega); exact ⟨by decide +kernel, by decide +kernel, by decide +kernel, by decide +kernel, by decide +kernel⟩), by decide +kernel, by decide +kernel, fun j hj => (by obtain rfl : j = 0 := (by omega); exact ⟨by decide +kernel, by decide +kernel, by decide +kernel, by decide +kernel, by decide +kernel⟩), by decide +kernel, by decide +kernel, by decide⟩
set_option maxRecDepth 100000 in
theorem lw_m10 : (11000 + 58, md_X6_wind, 1, 0) ∈ jm_mthT ∧ (11000 + 61, md_X7_wind, 1, 0) ∈ jm_mthT := ⟨List.mem_of_getElem? (i := 162) rfl, List.mem_of_getElem? (i := 163) rfl⟩
set_option maxRecDepth 100000 in
theorem lw_d11 : lw_D 525 2 62 65 873 := ⟨by decide +kernel, fun j hj => (by rcases (by omega : j = 0 ∨ j = 1) with rfl | rfl <;> exact ⟨by decide +kernel, by decide +kernel, by decide +kernel, by decide +kernel, by decide +kernel⟩), by decide +kernel, by decide +kernel, fun j hj => (by rcases (by omega : j = 0 ∨ j = 1) with rfl | rfl <;> exact ⟨by decide +kernel, by decide +kernel, by decide +kernel, by decide +kernel, by decide +kernel⟩), by decide +kernel, by decide +kernel, by decide⟩
set_option maxRecDepth 100000 in
theorem lw_m11 : (11000 + 62, md_X6_sand, 2, 0) ∈ jm_mthT ∧ (11000 + 65, md_X7_sand, 2, 0) ∈ jm_mthT := ⟨List.mem_of_getElem? (i := 164) rfl, List.mem_of_getElem? (i := 165) rfl⟩
set_option maxRecDepth 100000 in
theorem lw_d12 : lw_D 558 2 66 69 840 := ⟨by decide +kernel, fun j hj => (by rcases (by omega : j = 0 ∨ j = 1) with rfl | rfl <;> exact ⟨by decide +kernel, by decide +kernel, by decide +kernel, by decide +kernel, by decide +kernel⟩), by decide +kernel, by decide +kernel, fun j hj => (by rcases (by omega : j = 0 ∨ j = 1) with rfl | rfl <;> exact ⟨by decide +kernel, by decide +kernel, by decide +kernel, by decide +kernel, by decide +kernel⟩), by decide +kernel, by decide +kernel, by decide⟩
set_option maxRecDepth 100000 in
theorem lw_m12 : (11000 + 66, md_X6_speed, 2, 0) ∈ jm_mthT ∧ (11000 + 69, md_X7_speed, 2, 0) ∈ jm_mthT := ⟨List.mem_of_getElem? (i := 166) rfl, List.mem_of_getElem? (i := 167) rfl⟩
set_option maxRecDepth 100000 in
theorem lw_d13 : lw_D 591 2 70 73 807 := ⟨by decide +kernel, fun j hj => (by rcases (by omega : j = 0 ∨ j = 1) with rfl | rfl <;> exact ⟨by decide +kernel, by decide +kernel, by decide +kernel, by decide +kernel, by decide +kernel⟩), by decide +kernel, by decide +kernel, fun j hj => (by rcases (by omega : j = 0 ∨ j = 1) with rfl | rfl <;> exact ⟨by decide +kernel, by decide +kernel, by decide +kernel, by decide +kernel, by decide +kernel⟩), by decide +kernel, by decide +kernel, by decide⟩
set_option maxRecDepth 100000 in
theorem lw_m13 : (11000 + 70, md_X6_boat, 2, 0) ∈ jm_mthT ∧ (11000 + 73, md_X7_boat, 2, 0) ∈ jm_mthT := ⟨List.mem_of_getElem? (i := 168) rfl, List.mem_of_getElem? (i := 169) rfl⟩
set_option maxRecDepth 100000 in
theorem lw_d14 : lw_D 624 2 74 77 774 := ⟨by decide +kernel, fun j hj => (by rcases (by omega : j = 0 ∨ j = 1) with rfl | rfl <;> exact ⟨by decide +kernel, by decide +kernel, by decide +kernel, by decide +kernel, by decide +kernel⟩), by decide +kernel, by decide +kernel, fun j hj => (by rcases (by omega : j = 0 ∨ j = 1) with rfl | rfl <;> exact ⟨by decide +kernel, by decide +kernel, by decide +kernel, by decide +kernel, by decide +kernel⟩), by decide +kernel, by decide +kernel, by decide⟩
set_option maxRecDepth 100000 in
theorem lw_m14 : (11000 + 74, md_X6_cell, 2, 0) ∈ jm_mthT ∧ (11000 + 77, md_X7_cell, 2, 0) ∈ jm_mthT := ⟨List.mem_of_getElem? (i := 170) rfl, List.mem_of_getElem? (i := 171) rfl⟩
set_option maxRecDepth 100000 in
theorem lw_d15 : lw_D 657 1 78 81 751 := ⟨by decide +kernel, fun j hj => (by obtain rfl : j = 0 := (by omega); exact ⟨by decide +kernel, by decide +kernel, by decide +kernel, by decide +kernel, by decide +kernel⟩), by decide +kernel, by decide +kernel, fun j hj => (by obtain rfl : j = 0 := (by omega); exact ⟨by decide +kernel, by decide +kernel, by decide +kernel, by decide +kernel, by decide +kernel⟩), by decide +kernel, by decide +kernel, by decide⟩
set_option maxRecDepth 100000 in
theorem lw_m15 : (11000 + 78, md_X6_stand, 1, 0) ∈ jm_mthT ∧ (11000 + 81, md_X7_stand, 1, 0) ∈ jm_mthT := ⟨List.mem_of_getElem? (i := 172) rfl, List.mem_of_getElem? (i := 173) rfl⟩
set_option maxRecDepth 100000 in
theorem lw_d16 : lw_D 680 2 82 85 718 := ⟨by decide +kernel, fun j hj => (by rcases (by omega : j = 0 ∨ j = 1) with rfl | rfl <;> exact ⟨by decide +kernel, by decide +kernel, by decide +kernel, by decide +kernel, by decide +kernel⟩), by decide +kernel, by decide +kernel, fun j hj => (by rcases (by omega : j = 0 ∨ j = 1) with rfl | rfl <;> exact ⟨by decide +kernel, by decide +kernel, by decide +kernel, by decide +kernel, by decide +kernel⟩), by decide +kernel, by decide +kernel, by decide⟩
set_option maxRecDepth 100000 in
theorem lw_m16 : (11000 + 82, md_X6_ahead, 2, 0) ∈ jm_mthT ∧ (11000 + 85, md_X7_ahead, 2, 0) ∈ jm_mthT := ⟨List.mem_of_getElem? (i := 174) rfl, List.mem_of_getElem? (i := 175) rfl⟩
set_option maxRecDepth 100000 in
theorem lw_d17 : lw_D 713 1 86 89 695 := ⟨by decide +kernel, fun j hj => (by obtain rfl : j = 0 := (by omega); exact ⟨by decide +kernel, by decide +kernel, by decide +kernel, by decide +kernel, by decide +kernel⟩), by decide +kernel, by decide +kernel, fun j hj => (by obtain rfl : j = 0 := (by omega); exact ⟨by decide +kernel, by decide +kernel, by decide +kernel, by decide +kernel, by decide +kernel⟩), by decide +kernel, by decide +kernel, by decide⟩
set_option maxRecDepth 100000 in
theorem lw_m17 : (11000 + 86, md_X6_owner, 1, 0) ∈ jm_mthT ∧ (11000 + 89, md_X7_owner, 1, 0) ∈ jm_mthT := ⟨List.mem_of_getElem? (i := 176) rfl, List.mem_of_getElem? (i := 177) rfl⟩
set_option maxRecDepth 100000 in
theorem lw_d18 : lw_D 736 2 90 93 662 := ⟨by decide +kernel, fun j hj => (by rcases (by omega : j = 0 ∨ j = 1) with rfl | rfl <;> exact ⟨by decide +kernel, by decide +kernel, by decide +kernel, by decide +kernel, by decide +kernel⟩), by decide +kernel, by decide +kernel, fun j hj => (by rcases (by omega : j = 0 ∨ j = 1) with rfl | rfl <;> exact ⟨by decide +kernel, by decide +kernel, by decide +kernel, by decide +kernel, by decide +kernel⟩), by decide +kernel, by decide +kernel, by decide⟩
set_option maxRecDepth 100000 in
theorem lw_m18 : (11000 + 90, md_X6_held, 2, 0) ∈ jm_mthT ∧ (11000 + 93, md_X7_held, 2, 0) ∈ jm_mthT := ⟨List.mem_of_getElem? (i := 178) rfl, List.mem_of_getElem? (i := 179) rfl⟩
set_option maxRecDepth 100000 in
theorem lw_d19 : lw_D 769 0 94 97 649 := ⟨by decide +kernel, fun j hj => absurd hj (by omega), by decide +kernel, by decide +kernel, fun j hj => absurd hj (by omega), by decide +kernel, by decide +kernel, by decide⟩
set_option maxRecDepth 100000 in
theorem lw_m19 : (11000 + 94, md_X6_shows, 0, 0) ∈ jm_mthT ∧ (11000 + 97, md_X7_shows, 0, 0) ∈ jm_mthT := ⟨List.mem_of_getElem? (i := 180) rfl, List.mem_of_getElem? (i := 181) rfl⟩
set_option maxRecDepth 100000 in
theorem lw_d20 : lw_D 782 1 98 101 626 := ⟨by decide +kernel, fun j hj => (by obtain rfl : j = 0 := (by omega); exact ⟨by decide +kernel, by decide +kernel, by decide +kernel, by decide +kernel, by decide +kernel⟩), by decide +kernel, by decide +kernel, fun j hj => (by obtain rfl : j = 0 := (by omega); exact ⟨by decide +kernel, by decide +kernel, by decide +kernel, by decide +kernel, by decide +kernel⟩), by decide +kernel, by decide +kernel, by decide⟩
set_option maxRecDepth 100000 in
theorem lw_m20 : (11000 + 98, md_X6_dry, 1, 0) ∈ jm_mthT ∧ (11000 + 101, md_X7_dry, 1, 0) ∈ jm_mthT := ⟨List.mem_of_getElem? (i := 182) rfl, List.mem_of_getElem? (i := 183) rfl⟩
set_option maxRecDepth 100000 in
theorem lw_d21 : lw_D 805 1 102 105 603 := ⟨by decide +kernel, fun j hj => (by obtain rfl : j = 0 := (by omega); exact ⟨by decide +kernel, by decide +kernel, by decide +kernel, by decide +kernel, by decide +kernel⟩), by decide +kernel, by decide +kernel, fun j hj => (by obtain rfl : j = 0 := (by omega); exact ⟨by decide +kernel, by decide +kernel, by decide +kernel, by decide +kernel, by decide +kernel⟩), by decide +kernel, by decide +kernel, by decide⟩
set_option maxRecDepth 100000 in
theorem lw_m21 : (11000 + 102, md_X6_open, 1, 0) ∈ jm_mthT ∧ (11000 + 105, md_X7_open, 1, 0) ∈ jm_mthT := ⟨List.mem_of_getElem? (i := 184) rfl, List.mem_of_getElem? (i := 185) rfl⟩
set_option maxRecDepth 100000 in
theorem lw_d22 : lw_D 828 1 106 109 580 := ⟨by decide +kernel, fun j hj => (by obtain rfl : j = 0 := (by omega); exact ⟨by decide +kernel, by decide +kernel, by decide +kernel, by decide +kernel, by decide +kernel⟩), by decide +kernel, by decide +kernel, fun j hj => (by obtain rfl : j = 0 := (by omega); exact ⟨by decide +kernel, by decide +kernel, by decide +kernel, by decide +kernel, by decide +kernel⟩), by decide +kernel, by decide +kernel, by decide⟩
set_option maxRecDepth 100000 in
theorem lw_m22 : (11000 + 106, md_X6_first, 1, 0) ∈ jm_mthT ∧ (11000 + 109, md_X7_first, 1, 0) ∈ jm_mthT := ⟨List.mem_of_getElem? (i := 186) rfl, List.mem_of_getElem? (i := 187) rfl⟩
set_option maxRecDepth 100000 in
theorem lw_d23 : lw_D 851 2 110 113 547 := ⟨by decide +kernel, fun j hj => (by rcases (by omega : j = 0 ∨ j = 1) with rfl | rfl <;> exact ⟨by decide +kernel, by decide +kernel, by decide +kernel, by decide +kernel, by decide +kernel⟩), by decide +kernel, by decide +kernel, fun j hj => (by rcases (by omega : j = 0 ∨ j = 1) with rfl | rfl <;> exact ⟨by decide +kernel, by decide +kernel, by decide +kernel, by decide +kernel, by decide +kernel⟩), by decide +kernel, by decide +kernel, by decide⟩
set_option maxRecDepth 100000 in
theorem lw_m23 : (11000 + 110, md_X6_latest, 2, 0) ∈ jm_mthT ∧ (11000 + 113, md_X7_latest, 2, 0) ∈ jm_mthT := ⟨List.mem_of_getElem? (i := 188) rfl, List.mem_of_getElem? (i := 189) rfl⟩
set_option maxRecDepth 100000 in
theorem lw_d24 : lw_D 884 2 114 117 514 := ⟨by decide +kernel, fun j hj => (by rcases (by omega : j = 0 ∨ j = 1) with rfl | rfl <;> exact ⟨by decide +kernel, by decide +kernel, by decide +kernel, by decide +kernel, by decide +kernel⟩), by decide +kernel, by decide +kernel, fun j hj => (by rcases (by omega : j = 0 ∨ j = 1) with rfl | rfl <;> exact ⟨by decide +kernel, by decide +kernel, by decide +kernel, by decide +kernel, by decide +kernel⟩), by decide +kernel, by decide +kernel, by decide⟩
set_option maxRecDepth 100000 in
theorem lw_m24 : (11000 + 114, md_X6_winds, 2, 0) ∈ jm_mthT ∧ (11000 + 117, md_X7_winds, 2, 0) ∈ jm_mthT := ⟨List.mem_of_getElem? (i := 190) rfl, List.mem_of_getElem? (i := 191) rfl⟩
set_option maxRecDepth 100000 in
theorem lw_d25 : lw_D 917 3 118 121 471 := ⟨by decide +kernel, fun j hj => (by rcases (by omega : j = 0 ∨ j = 1 ∨ j = 2) with rfl | rfl | rfl <;> exact ⟨by decide +kernel, by decide +kernel, by decide +kernel, by decide +kernel, by decide +kernel⟩), by decide +kernel, by decide +kernel, fun j hj => (by rcases (by omega : j = 0 ∨ j = 1 ∨ j = 2) with rfl | rfl | rfl <;> exact ⟨by decide +kernel, by decide +kernel, by decide +kernel, by decide +kernel, by decide +kernel⟩), by decide +kernel, by decide +kernel, by decide⟩
set_option maxRecDepth 100000 in
theorem lw_m25 : (11000 + 118, md_X6_recall, 3, 0) ∈ jm_mthT ∧ (11000 + 121, md_X7_recall, 3, 0) ∈ jm_mthT := ⟨List.mem_of_getElem? (i := 192) rfl, List.mem_of_getElem? (i := 193) rfl⟩
set_option maxRecDepth 100000 in
theorem lw_d26 : lw_D 960 2 122 125 438 := ⟨by decide +kernel, fun j hj => (by rcases (by omega : j = 0 ∨ j = 1) with rfl | rfl <;> exact ⟨by decide +kernel, by decide +kernel, by decide +kernel, by decide +kernel, by decide +kernel⟩), by decide +kernel, by decide +kernel, fun j hj => (by rcases (by omega : j = 0 ∨ j = 1) with rfl | rfl <;> exact ⟨by decide +kernel, by decide +kernel, by decide +kernel, by decide +kernel, by decide +kernel⟩), by decide +kernel, by decide +kernel, by decide⟩
set_option maxRecDepth 100000 in
theorem lw_m26 : (11000 + 122, md_X6_fleet, 2, 0) ∈ jm_mthT ∧ (11000 + 125, md_X7_fleet, 2, 0) ∈ jm_mthT := ⟨List.mem_of_getElem? (i := 194) rfl, List.mem_of_getElem? (i := 195) rfl⟩
set_option maxRecDepth 100000 in
theorem lw_d27 : lw_D 993 1 126 129 415 := ⟨by decide +kernel, fun j hj => (by obtain rfl : j = 0 := (by omega); exact ⟨by decide +kernel, by decide +kernel, by decide +kernel, by decide +kernel, by decide +kernel⟩), by decide +kernel, by decide +kernel, fun j hj => (by obtain rfl : j = 0 := (by omega); exact ⟨by decide +kernel, by decide +kernel, by decide +kernel, by decide +kernel, by decide +kernel⟩), by decide +kernel, by decide +kernel, by decide⟩
set_option maxRecDepth 100000 in
theorem lw_m27 : (11000 + 126, md_X6_sandFor, 1, 0) ∈ jm_mthT ∧ (11000 + 129, md_X7_sandFor, 1, 0) ∈ jm_mthT := ⟨List.mem_of_getElem? (i := 196) rfl, List.mem_of_getElem? (i := 197) rfl⟩
set_option maxRecDepth 100000 in
theorem lw_d28 : lw_D 1016 5 130 133 352 := ⟨by decide +kernel, fun j hj => (by rcases (by omega : j = 0 ∨ j = 1 ∨ j = 2 ∨ j = 3 ∨ j = 4) with rfl | rfl | rfl | rfl | rfl <;> exact ⟨by decide +kernel, by decide +kernel, by decide +kernel, by decide +kernel, by decide +kernel⟩), by decide +kernel, by decide +kernel, fun j hj => (by rcases (by omega : j = 0 ∨ j = 1 ∨ j = 2 ∨ j = 3 ∨ j = 4) with rfl | rfl | rfl | rfl | rfl <;> exact ⟨by decide +kernel, by decide +kernel, by decide +kernel, by decide +kernel, by decide +kernel⟩), by decide +kernel, by decide +kernel, by decide⟩
set_option maxRecDepth 100000 in
theorem lw_m28 : (11000 + 130, md_X6_who, 5, 0) ∈ jm_mthT ∧ (11000 + 133, md_X7_who, 5, 0) ∈ jm_mthT := ⟨List.mem_of_getElem? (i := 198) rfl, List.mem_of_getElem? (i := 199) rfl⟩
set_option maxRecDepth 100000 in
theorem lw_d29 : lw_D 1079 3 134 137 309 := ⟨by decide +kernel, fun j hj => (by rcases (by omega : j = 0 ∨ j = 1 ∨ j = 2) with rfl | rfl | rfl <;> exact ⟨by decide +kernel, by decide +kernel, by decide +kernel, by decide +kernel, by decide +kernel⟩), by decide +kernel, by decide +kernel, fun j hj => (by rcases (by omega : j = 0 ∨ j = 1 ∨ j = 2) with rfl | rfl | rfl <;> exact ⟨by decide +kernel, by decide +kernel, by decide +kernel, by decide +kernel, by decide +kernel⟩), by decide +kernel, by decide +kernel, by decide⟩
set_option maxRecDepth 100000 in
theorem lw_m29 : (11000 + 134, md_X6_barred, 3, 0) ∈ jm_mthT ∧ (11000 + 137, md_X7_barred, 3, 0) ∈ jm_mthT := ⟨List.mem_of_getElem? (i := 200) rfl, List.mem_of_getElem? (i := 201) rfl⟩
set_option maxRecDepth 100000 in
theorem lw_d30 : lw_D 1122 0 138 141 296 := ⟨by decide +kernel, fun j hj => absurd hj (by omega), by decide +kernel, by decide +kernel, fun j hj => absurd hj (by omega), by decide +kernel, by decide +kernel, by decide⟩
set_option maxRecDepth 100000 in
theorem lw_m30 : (11000 + 138, md_X6_rich, 0, 0) ∈ jm_mthT ∧ (11000 + 141, md_X7_rich, 0, 0) ∈ jm_mthT := ⟨List.mem_of_getElem? (i := 202) rfl, List.mem_of_getElem? (i := 203) rfl⟩
set_option maxRecDepth 100000 in
theorem lw_d31 : lw_DL 1135 4 142 146 242 := ⟨by decide +kernel, fun j hj => (by rcases (by omega : j = 0 ∨ j = 1 ∨ j = 2 ∨ j = 3) with rfl | rfl | rfl | rfl <;> exact ⟨by decide +kernel, by decide +kernel, by decide +kernel, by decide +kernel, by decide +kernel⟩), by decide +kernel, by decide +kernel, fun j hj => (by rcases (by omega : j = 0 ∨ j = 1 ∨ j = 2 ∨ j = 3) with rfl | rfl | rfl | rfl <;> exact ⟨by decide +kernel, by decide +kernel, by decide +kernel, by decide +kernel, by decide +kernel⟩), by decide +kernel, by decide +kernel, by decide +kernel, by decide⟩
set_option maxRecDepth 100000 in
theorem lw_m31 : (11000 + 142, md_X6_wreck, 4, 0) ∈ jm_mthT ∧ (11000 + 146, md_X7_wreck, 4, 0) ∈ jm_mthT := ⟨List.mem_of_getElem? (i := 204) rfl, List.mem_of_getElem? (i := 205) rfl⟩
set_option maxRecDepth 100000 in
theorem lw_d32 : lw_D 1189 3 147 150 199 := ⟨by decide +kernel, fun j hj => (by rcases (by omega : j = 0 ∨ j = 1 ∨ j = 2) with rfl | rfl | rfl <;> exact ⟨by decide +kernel, by decide +kernel, by decide +kernel, by decide +kernel, by decide +kernel⟩), by decide +kernel, by decide +kernel, fun j hj => (by rcases (by omega : j = 0 ∨ j = 1 ∨ j = 2) with rfl | rfl | rfl <;> exact ⟨by decide +kernel, by decide +kernel, by decide +kernel, by decide +kernel, by decide +kernel⟩), by decide +kernel, by decide +kernel, by decide⟩
set_option maxRecDepth 100000 in
theorem lw_m32 : (11000 + 147, md_X6_drawn, 3, 0) ∈ jm_mthT ∧ (11000 + 150, md_X7_drawn, 3, 0) ∈ jm_mthT := ⟨List.mem_of_getElem? (i := 206) rfl, List.mem_of_getElem? (i := 207) rfl⟩
set_option maxRecDepth 100000 in
theorem lw_d33 : lw_D 1232 1 151 154 176 := ⟨by decide +kernel, fun j hj => (by obtain rfl : j = 0 := (by omega); exact ⟨by decide +kernel, by decide +kernel, by decide +kernel, by decide +kernel, by decide +kernel⟩), by decide +kernel, by decide +kernel, fun j hj => (by obtain rfl : j = 0 := (by omega); exact ⟨by decide +kernel, by decide +kernel, by decide +kernel, by decide +kernel, by decide +kernel⟩), by decide +kernel, by decide +kernel, by decide⟩
set_option maxRecDepth 100000 in
theorem lw_m33 : (11000 + 151, md_X6_image, 1, 0) ∈ jm_mthT ∧ (11000 + 154, md_X7_image, 1, 0) ∈ jm_mthT := ⟨List.mem_of_getElem? (i := 208) rfl, List.mem_of_getElem? (i := 209) rfl⟩
set_option maxRecDepth 100000 in
theorem lw_d34 : lw_D 1255 1 155 158 153 := ⟨by decide +kernel, fun j hj => (by obtain rfl : j = 0 := (by omega); exact ⟨by decide +kernel, by decide +kernel, by decide +kernel, by decide +kernel, by decide +kernel⟩), by decide +kernel, by decide +kernel, fun j hj => (by obtain rfl : j = 0 := (by omega); exact ⟨by decide +kernel, by decide +kernel, by decide +kernel, by decide +kernel, by decide +kernel⟩), by decide +kernel, by decide +kernel, by decide⟩
set_option maxRecDepth 100000 in
theorem lw_m34 : (11000 + 155, md_X6_restore, 1, 0) ∈ jm_mthT ∧ (11000 + 158, md_X7_restore, 1, 0) ∈ jm_mthT := ⟨List.mem_of_getElem? (i := 210) rfl, List.mem_of_getElem? (i := 211) rfl⟩
set_option maxRecDepth 100000 in
theorem lw_d35 : lw_D 1278 1 159 162 130 := ⟨by decide +kernel, fun j hj => (by obtain rfl : j = 0 := (by omega); exact ⟨by decide +kernel, by decide +kernel, by decide +kernel, by decide +kernel, by decide +kernel⟩), by decide +kernel, by decide +kernel, fun j hj => (by obtain rfl : j = 0 := (by omega); exact ⟨by decide +kernel, by decide +kernel, by decide +kernel, by decide +kernel, by decide +kernel⟩), by decide +kernel, by decide +kernel, by decide⟩
set_option maxRecDepth 100000 in
theorem lw_m35 : (11000 + 159, md_X6_kind, 1, 0) ∈ jm_mthT ∧ (11000 + 162, md_X7_kind, 1, 0) ∈ jm_mthT := ⟨List.mem_of_getElem? (i := 212) rfl, List.mem_of_getElem? (i := 213) rfl⟩
set_option maxRecDepth 100000 in
theorem lw_d36 : lw_D 1301 2 163 166 97 := ⟨by decide +kernel, fun j hj => (by rcases (by omega : j = 0 ∨ j = 1) with rfl | rfl <;> exact ⟨by decide +kernel, by decide +kernel, by decide +kernel, by decide +kernel, by decide +kernel⟩), by decide +kernel, by decide +kernel, fun j hj => (by rcases (by omega : j = 0 ∨ j = 1) with rfl | rfl <;> exact ⟨by decide +kernel, by decide +kernel, by decide +kernel, by decide +kernel, by decide +kernel⟩), by decide +kernel, by decide +kernel, by decide⟩
set_option maxRecDepth 100000 in
theorem lw_m36 : (11000 + 163, md_X6_as, 2, 0) ∈ jm_mthT ∧ (11000 + 166, md_X7_as, 2, 0) ∈ jm_mthT := ⟨List.mem_of_getElem? (i := 214) rfl, List.mem_of_getElem? (i := 215) rfl⟩
set_option maxRecDepth 100000 in
theorem lw_d37 : lw_D 1334 2 167 170 64 := ⟨by decide +kernel, fun j hj => (by rcases (by omega : j = 0 ∨ j = 1) with rfl | rfl <;> exact ⟨by decide +kernel, by decide +kernel, by decide +kernel, by decide +kernel, by decide +kernel⟩), by decide +kernel, by decide +kernel, fun j hj => (by rcases (by omega : j = 0 ∨ j = 1) with rfl | rfl <;> exact ⟨by decide +kernel, by decide +kernel, by decide +kernel, by decide +kernel, by decide +kernel⟩), by decide +kernel, by decide +kernel, by decide⟩
set_option maxRecDepth 100000 in
theorem lw_m37 : (11000 + 167, md_X6_ask, 2, 0) ∈ jm_mthT ∧ (11000 + 170, md_X7_ask, 2, 0) ∈ jm_mthT := ⟨List.mem_of_getElem? (i := 216) rfl, List.mem_of_getElem? (i := 217) rfl⟩
set_option maxRecDepth 100000 in
theorem lw_d38 : lw_D 1367 1 171 174 41 := ⟨by decide +kernel, fun j hj => (by obtain rfl : j = 0 := (by omega); exact ⟨by decide +kernel, by decide +kernel, by decide +kernel, by decide +kernel, by decide +kernel⟩), by decide +kernel, by decide +kernel, fun j hj => (by obtain rfl : j = 0 := (by omega); exact ⟨by decide +kernel, by decide +kernel, by decide +kernel, by decide +kernel, by decide +kernel⟩), by decide +kernel, by decide +kernel, by decide⟩
set_option maxRecDepth 100000 in
theorem lw_m38 : (11000 + 171, md_X6_trace, 1, 0) ∈ jm_mthT ∧ (11000 + 174, md_X7_trace, 1, 0) ∈ jm_mthT := ⟨List.mem_of_getElem? (i := 218) rfl, List.mem_of_getElem? (i := 219) rfl⟩
set_option maxRecDepth 100000 in
theorem lw_d39 : lw_D 1390 1 175 178 18 := ⟨by decide +kernel, fun j hj => (by obtain rfl : j = 0 := (by omega); exact ⟨by decide +kernel, by decide +kernel, by decide +kernel, by decide +kernel, by decide +kernel⟩), by decide +kernel, by decide +kernel, fun j hj => (by obtain rfl : j = 0 := (by omega); exact ⟨by decide +kernel, by decide +kernel, by decide +kernel, by decide +kernel, by decide +kernel⟩), by decide +kernel, by decide +kernel, by decide⟩
set_option maxRecDepth 100000 in
theorem lw_m39 : (11000 + 175, md_X6_count, 1, 0) ∈ jm_mthT ∧ (11000 + 178, md_X7_count, 1, 0) ∈ jm_mthT := ⟨List.mem_of_getElem? (i := 220) rfl, List.mem_of_getElem? (i := 221) rfl⟩
set_option maxRecDepth 100000 in
theorem lw_d40 : lw_D 1413 0 179 182 5 := ⟨by decide +kernel, fun j hj => absurd hj (by omega), by decide +kernel, by decide +kernel, fun j hj => absurd hj (by omega), by decide +kernel, by decide +kernel, by decide⟩
set_option maxRecDepth 100000 in
theorem lw_m40 : (11000 + 179, md_X6_status, 0, 0) ∈ jm_mthT ∧ (11000 + 182, md_X7_status, 0, 0) ∈ jm_mthT := ⟨List.mem_of_getElem? (i := 222) rfl, List.mem_of_getElem? (i := 223) rfl⟩
