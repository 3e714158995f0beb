theorem jm_csl {S : List Value} (h : decide (S.length ≤ 4) = true) : decide (jm_cs S ≤ 8) = true := by
  have key : ∀ S : List Value, jm_cs S ≤ 2 * S.length := by
    intro S
    induction S with
    | nil => exact Nat.le_refl _
    | cons v r ih =>
      have : v.category = 1 ∨ v.category = 2 := lv_cat _
      show v.category + jm_cs r ≤ 2 * (r.length + 1)
      omega
  have h1 := of_decide_eq_true h
  have := key S
  exact decide_eq_true (by omega)
theorem jm_csl2 {S : List Value} {b : Bool} (h : (decide (S.length ≤ 4) && b) = true) : (decide (jm_cs S ≤ 8) && b) = true := by
  rw [Bool.and_eq_true] at h
  rw [Bool.and_eq_true]
  exact ⟨jm_csl h.1, h.2⟩
def jm_mk (m : Nat → Nat → Int32) : jm_M := (230, m, jm_R0)
def jm_iaL : List Nat := [17, 24, 31, 38, 45, 52, 59, 66, 73, 80, 87, 94, 101, 108, 115, 122, 129, 136, 143, 150, 157, 164, 171, 178, 186, 193, 200, 208]
def jm_ia (a : Nat) : Bool := jm_iaL.contains a
set_option maxRecDepth 100000 in
theorem jm_iaF : ∀ a ∈ jm_iaL, jm_kd a = 2 ∧ a + 7 ≤ 230 ∧ ∀ r, r < 7 → 1 ≤ r → jm_kd (a + r) = 8 ∧ jm_ln (a + r) = 6 ∧ jm_R0 a (7 + r) = some (a + r) := by decide +kernel
theorem jm_ia_mem {a : Nat} (h : jm_ia a = true) : a ∈ jm_iaL := by simpa [jm_ia] using h
theorem jm_ia_k {a : Nat} (h : jm_ia a = true) : jm_kd a = 2 := (jm_iaF a (jm_ia_mem h)).1
theorem jm_ia_kd {a : Nat} (h : jm_ia a = true) (r : Nat) (h1 : r < 7) (h2 : 1 ≤ r) : jm_kd (a + r) = 8 := ((jm_iaF a (jm_ia_mem h)).2.2 r h1 h2).1
theorem jm_ia_ln {a : Nat} (h : jm_ia a = true) (r : Nat) (h1 : r < 7) (h2 : 1 ≤ r) : jm_ln (a + r) = 6 := ((jm_iaF a (jm_ia_mem h)).2.2 r h1 h2).2.1
theorem jm_ia_R {a : Nat} (h : jm_ia a = true) (r : Nat) (h1 : r < 7) (h2 : 1 ≤ r) : jm_R0 a (7 + r) = some (a + r) := ((jm_iaF a (jm_ia_mem h)).2.2 r h1 h2).2.2
theorem jm_mk_is {m : Nat → Nat → Int32} {a k : Nat} (h : jm_kd a = k) (hk : k < 99) : jm_is (jm_mk m) a k = true := by
  unfold jm_is
  rw [decide_eq_true h, Bool.and_true]
  exact decide_eq_true (jm_kd_lt (by omega) : a < 230)
theorem jm_ia_is {m : Nat → Nat → Int32} {a : Nat} (h : jm_ia a = true) : jm_is (jm_mk m) a 2 = true := jm_mk_is (jm_ia_k h) (by decide)
noncomputable def jm_bd (o : Option jm_A) (S : List Value) (d : Nat) (μ : jm_Md) (pc : Nat) (L : List Value) : Option jm_A := o.bind (fun r => jm_R d μ pc L (r.1.toList ++ S) r.2)
theorem jm_bd_v {v : Value} {M : jm_M} {S : List Value} {d : Nat} {μ : jm_Md} {pc : Nat} {L : List Value} : jm_bd (some (some v, M)) S d μ pc L = jm_R d μ pc L (v :: S) M := rfl
theorem jm_bd_0 {M : jm_M} {S : List Value} {d : Nat} {μ : jm_Md} {pc : Nat} {L : List Value} : jm_bd (some (none, M)) S d μ pc L = jm_R d μ pc L S M := rfl
section JR
variable {d pc idx : Nat} {μ : jm_Md} {L S : List Value} {M : jm_M} {m : Nat → Nat → Int32} {a j n : Nat}
theorem jm_if_t {x y : Option jm_N} : jm_if true x y = x := rfl
theorem jm_r_dv {f : Int32 → Int32 → Int32} {x y : Int32} {i : Instr} (hd : decode μ.2.1 pc = .ok (i, 1)) (hx : jm_ex d μ i 1 pc L (.int y :: .int x :: S) M = jm_dv f (pc + 1) L (.int y :: .int x :: S) M) (hy : ¬ y = 0) : jm_R d μ pc L (.int y :: .int x :: S) M = jm_R d μ (pc + 1) L (.int (f x y) :: S) M := by
  refine jm_R_step hd (hx.trans ?_)
  unfold jm_dv
  dsimp only
  rw [decide_eq_false hy]
  rfl
theorem jm_r_dl {f : Int64 → Int64 → Int64} {x y : Int64} {i : Instr} (hd : decode μ.2.1 pc = .ok (i, 1)) (hx : jm_ex d μ i 1 pc L (.long y :: .long x :: S) M = jm_dl f (pc + 1) L (.long y :: .long x :: S) M) (hy : ¬ y = 0) : jm_R d μ pc L (.long y :: .long x :: S) M = jm_R d μ (pc + 1) L (.long (f x y) :: S) M := by
  refine jm_R_step hd (hx.trans ?_)
  unfold jm_dl
  dsimp only
  rw [decide_eq_false hy]
  rfl
theorem jm_brT {b : Bool} {off : Int} {t : Nat} (ht : (pc : Int) + off = Int.ofNat t) : jm_br b off pc L S M = some (.inl (jm_sel b t (pc + 3), L, S, M)) := by
  unfold jm_br
  rw [ht]
  rfl
theorem jm_r_icmp {c : Jvm.ClassFile.Cond} {off : Int} {x y : Int32} {t : Nat} (hd : decode μ.2.1 pc = .ok (.if_icmp c off, 3)) (ht : (pc : Int) + off = Int.ofNat t) : jm_R d μ pc L (.int y :: .int x :: S) M = jm_R d μ (jm_sel (jm_cd c x y) t (pc + 3)) L S M := jm_R_step hd (jm_brT ht)
theorem jm_r_ifc {c : Jvm.ClassFile.Cond} {off : Int} {x : Int32} {t : Nat} (hd : decode μ.2.1 pc = .ok (.ifCond c off, 3)) (ht : (pc : Int) + off = Int.ofNat t) : jm_R d μ pc L (.int x :: S) M = jm_R d μ (jm_sel (jm_cd c x 0) t (pc + 3)) L S M := jm_R_step hd (jm_brT ht)
theorem jm_sel_if {p : Prop} {dp : Decidable p} {b : Bool} {t q : Nat} (h : b = @decide p dp) : jm_R d μ (jm_sel b t q) L S M = @ite _ p dp (jm_R d μ t L S M) (jm_R d μ q L S M) := by
  subst h
  by_cases hp : p
  · rw [if_pos hp, decide_eq_true hp]; rfl
  · rw [if_neg hp, decide_eq_false hp]; rfl
theorem jm_r_icmp_eq {off : Int} {x y : Int32} {t : Nat} (hd : decode μ.2.1 pc = .ok (.if_icmp .eq off, 3)) (ht : (pc : Int) + off = Int.ofNat t) : jm_R d μ pc L (.int y :: .int x :: S) M = if x = y then jm_R d μ t L S M else jm_R d μ (pc + 3) L S M := (jm_r_icmp hd ht).trans (jm_sel_if rfl)
theorem jm_r_if_eq {off : Int} {x : Int32} {t : Nat} (hd : decode μ.2.1 pc = .ok (.ifCond .eq off, 3)) (ht : (pc : Int) + off = Int.ofNat t) : jm_R d μ pc L (.int x :: S) M = if x = nI 0 then jm_R d μ t L S M else jm_R d μ (pc + 3) L S M := (jm_r_ifc hd ht).trans (jm_sel_if rfl)
theorem jm_r_icmp_ne {off : Int} {x y : Int32} {t : Nat} (hd : decode μ.2.1 pc = .ok (.if_icmp .ne off, 3)) (ht : (pc : Int) + off = Int.ofNat t) : jm_R d μ pc L (.int y :: .int x :: S) M = if ¬ x = y then jm_R d μ t L S M else jm_R d μ (pc + 3) L S M := (jm_r_icmp hd ht).trans (jm_sel_if rfl)
theorem jm_r_if_ne {off : Int} {x : Int32} {t : Nat} (hd : decode μ.2.1 pc = .ok (.ifCond .ne off, 3)) (ht : (pc : Int) + off = Int.ofNat t) : jm_R d μ pc L (.int x :: S) M = if ¬ x = nI 0 then jm_R d μ t L S M else jm_R d μ (pc + 3) L S M := (jm_r_ifc hd ht).trans (jm_sel_if rfl)
theorem jm_r_icmp_lt {off : Int} {x y : Int32} {t : Nat} (hd : decode μ.2.1 pc = .ok (.if_icmp .lt off, 3)) (ht : (pc : Int) + off = Int.ofNat t) : jm_R d μ pc L (.int y :: .int x :: S) M = if x < y then jm_R d μ t L S M else jm_R d μ (pc + 3) L S M := (jm_r_icmp hd ht).trans (jm_sel_if rfl)
theorem jm_r_if_lt {off : Int} {x : Int32} {t : Nat} (hd : decode μ.2.1 pc = .ok (.ifCond .lt off, 3)) (ht : (pc : Int) + off = Int.ofNat t) : jm_R d μ pc L (.int x :: S) M = if x < nI 0 then jm_R d μ t L S M else jm_R d μ (pc + 3) L S M := (jm_r_ifc hd ht).trans (jm_sel_if rfl)
theorem jm_r_icmp_ge {off : Int} {x y : Int32} {t : Nat} (hd : decode μ.2.1 pc = .ok (.if_icmp .ge off, 3)) (ht : (pc : Int) + off = Int.ofNat t) : jm_R d μ pc L (.int y :: .int x :: S) M = if y ≤ x then jm_R d μ t L S M else jm_R d μ (pc + 3) L S M := (jm_r_icmp hd ht).trans (jm_sel_if rfl)
theorem jm_r_if_ge {off : Int} {x : Int32} {t : Nat} (hd : decode μ.2.1 pc = .ok (.ifCond .ge off, 3)) (ht : (pc : Int) + off = Int.ofNat t) : jm_R d μ pc L (.int x :: S) M = if nI 0 ≤ x then jm_R d μ t L S M else jm_R d μ (pc + 3) L S M := (jm_r_ifc hd ht).trans (jm_sel_if rfl)
theorem jm_r_icmp_gt {off : Int} {x y : Int32} {t : Nat} (hd : decode μ.2.1 pc = .ok (.if_icmp .gt off, 3)) (ht : (pc : Int) + off = Int.ofNat t) : jm_R d μ pc L (.int y :: .int x :: S) M = if y < x then jm_R d μ t L S M else jm_R d μ (pc + 3) L S M := (jm_r_icmp hd ht).trans (jm_sel_if rfl)
theorem jm_r_if_gt {off : Int} {x : Int32} {t : Nat} (hd : decode μ.2.1 pc = .ok (.ifCond .gt off, 3)) (ht : (pc : Int) + off = Int.ofNat t) : jm_R d μ pc L (.int x :: S) M = if nI 0 < x then jm_R d μ t L S M else jm_R d μ (pc + 3) L S M := (jm_r_ifc hd ht).trans (jm_sel_if rfl)
theorem jm_r_icmp_le {off : Int} {x y : Int32} {t : Nat} (hd : decode μ.2.1 pc = .ok (.if_icmp .le off, 3)) (ht : (pc : Int) + off = Int.ofNat t) : jm_R d μ pc L (.int y :: .int x :: S) M = if x ≤ y then jm_R d μ t L S M else jm_R d μ (pc + 3) L S M := (jm_r_icmp hd ht).trans (jm_sel_if rfl)
theorem jm_r_if_le {off : Int} {x : Int32} {t : Nat} (hd : decode μ.2.1 pc = .ok (.ifCond .le off, 3)) (ht : (pc : Int) + off = Int.ofNat t) : jm_R d μ pc L (.int x :: S) M = if x ≤ nI 0 then jm_R d μ t L S M else jm_R d μ (pc + 3) L S M := (jm_r_ifc hd ht).trans (jm_sel_if rfl)
theorem jm_tsw_out {x : Int32} (lo n : Nat) (h : ∀ j, j < n → ¬ x = nI (lo + j)) (hb : lo + n < 1000 := by decide) : x.toInt < (lo : Int) ∨ ((lo + n : Nat) : Int) - 1 < x.toInt := by
  by_cases q : x.toInt < (lo : Int)
  · exact Or.inl q
  · by_cases z : ((lo + n : Nat) : Int) - 1 < x.toInt
    · exact Or.inr z
    · exfalso
      obtain ⟨j, hj⟩ : ∃ j : Nat, x.toInt = ((lo + j : Nat) : Int) := ⟨(x.toInt - lo).toNat, by omega⟩
      refine h j (by omega) (Int32.toInt_inj.mp ?_)
      rw [hj, nI_toInt (by omega)]
theorem jm_r_tsw {dflt lo hi : Int} {offs : Array Int} {n t : Nat} {x : Int32} (hd : decode μ.2.1 pc = .ok (.tableswitch dflt lo hi offs, n)) (h : x.toInt < lo ∨ hi < x.toInt) (ht : (pc : Int) + dflt = Int.ofNat t) : jm_R d μ pc L (.int x :: S) M = jm_R d μ t L S M := by
  refine jm_R_step hd ?_
  show jm_if (decide (x.toInt < lo ∨ hi < x.toInt)) _ _ = _
  rw [decide_eq_true h]
  show jm_to pc dflt L S M = _
  unfold jm_to
  rw [ht]
  rfl
theorem jm_r_lsw {dflt off : Int} {ps : Array (Int × Int)} {n t : Nat} {x : Int32} (hd : decode μ.2.1 pc = .ok (.lookupswitch dflt ps, n)) (hs : (ps.toList.zip (ps.toList.drop 1)).all (fun (a, next) => a.1 < next.1) = true) (ho : Op.lookupswitch.offset ps.toList dflt x.toInt = off) (ht : (pc : Int) + off = Int.ofNat t) : jm_R d μ pc L (.int x :: S) M = jm_R d μ t L S M := by
  refine jm_R_step hd ?_
  show jm_if ((ps.toList.zip (ps.toList.drop 1)).all (fun (a, next) => a.1 < next.1)) _ _ = _
  rw [hs]
  show jm_to pc _ L S M = _
  unfold jm_to
  rw [ho, ht]
  rfl
theorem jm_r_isI {k : Nat} (hd : decode μ.2.1 pc = .ok (.getfield idx, 3)) {key : Nat} (hk : jm_key μ idx = key) (hl : jm_look key jm_fldT = some (2, k)) (hr : jm_rf 2 k = false) (ha : jm_ia a = true) : jm_R d μ pc L (.ref a :: S) (jm_mk m) = jm_R d μ (pc + 3) L (.int (m a k) :: S) (jm_mk m) := by
  refine jm_R_step hd ?_
  show jm_getf μ idx (pc + 3) L (.ref a :: S) (jm_mk m) = _
  unfold jm_getf
  rw [hk, hl]
  dsimp only
  rw [jm_ia_is ha]
  show jm_nx _ _ _ _ = _
  unfold jm_fval
  rw [hr]
  rfl
theorem jm_r_isR {r : Nat} (hd : decode μ.2.1 pc = .ok (.getfield idx, 3)) {key : Nat} (hk : jm_key μ idx = key) (hl : jm_look key jm_fldT = some (2, 7 + r)) (hr : jm_rf 2 (7 + r) = true) (ha : jm_ia a = true) (h1 : r < 7 := by decide) (h2 : 1 ≤ r := by decide) : jm_R d μ pc L (.ref a :: S) (jm_mk m) = jm_R d μ (pc + 3) L (.ref (a + r) :: S) (jm_mk m) := by
  refine jm_R_step hd ?_
  show jm_getf μ idx (pc + 3) L (.ref a :: S) (jm_mk m) = _
  unfold jm_getf
  rw [hk, hl]
  dsimp only
  rw [jm_ia_is ha]
  show jm_nx _ _ _ _ = _
  unfold jm_fval
  rw [hr]
  show jm_nx _ _ (jm_rv (jm_R0 a (7 + r)) :: S) _ = _
  rw [jm_ia_R ha r h1 h2]
  rfl
theorem jm_r_isP {k : Nat} {v : Int32} (hd : decode μ.2.1 pc = .ok (.putfield idx, 3)) {key : Nat} (hk : jm_key μ idx = key) (hl : jm_look key jm_fldT = some (2, k)) (hr : jm_rf 2 k = false) (ha : jm_ia a = true) : jm_R d μ pc L (.int v :: .ref a :: S) (jm_mk m) = jm_R d μ (pc + 3) L S (jm_mk (jm_up m a k v)) := by
  refine jm_R_step hd ?_
  show jm_putf μ idx (pc + 3) L (.int v :: .ref a :: S) (jm_mk m) = _
  unfold jm_putf
  rw [hk, hl]
  dsimp only
  rw [jm_ia_is ha, hr]
  rfl
theorem jm_r_cI {ci k key : Nat} (hd : decode μ.2.1 pc = .ok (.getfield idx, 3)) (hk : jm_key μ idx = key) (hl : jm_look key jm_fldT = some (ci, k)) (hr : jm_rf ci k = false) (ha : jm_kd a = ci) (hc : ci < 99) : jm_R d μ pc L (.ref a :: S) (jm_mk m) = jm_R d μ (pc + 3) L (.int (m a k) :: S) (jm_mk m) := by
  refine jm_R_step hd ?_
  show jm_getf μ idx (pc + 3) L (.ref a :: S) (jm_mk m) = _
  unfold jm_getf
  rw [hk, hl]
  dsimp only
  rw [jm_mk_is ha hc]
  show jm_nx _ _ _ _ = _
  unfold jm_fval
  rw [hr]
  rfl
theorem jm_r_cR {ci k key b : Nat} (hd : decode μ.2.1 pc = .ok (.getfield idx, 3)) (hk : jm_key μ idx = key) (hl : jm_look key jm_fldT = some (ci, k)) (hr : jm_rf ci k = true) (ha : jm_kd a = ci) (hc : ci < 99) (hb : jm_R0 a k = some b) : jm_R d μ pc L (.ref a :: S) (jm_mk m) = jm_R d μ (pc + 3) L (.ref b :: S) (jm_mk m) := by
  refine jm_R_step hd ?_
  show jm_getf μ idx (pc + 3) L (.ref a :: S) (jm_mk m) = _
  unfold jm_getf
  rw [hk, hl]
  dsimp only
  rw [jm_mk_is ha hc]
  show jm_nx _ _ _ _ = _
  unfold jm_fval
  rw [hr]
  show jm_nx _ _ (jm_rv (jm_R0 a k) :: S) _ = _
  rw [hb]
  rfl
theorem jm_r_cP {ci k key : Nat} {v : Int32} (hd : decode μ.2.1 pc = .ok (.putfield idx, 3)) (hk : jm_key μ idx = key) (hl : jm_look key jm_fldT = some (ci, k)) (hr : jm_rf ci k = false) (ha : jm_kd a = ci) (hc : ci < 99) (hz : (!(ci == 7 && k == 4) || decide (v = 0 ∨ v = 1)) = true) : jm_R d μ pc L (.int v :: .ref a :: S) (jm_mk m) = jm_R d μ (pc + 3) L S (jm_mk (jm_up m a k v)) := by
  refine jm_R_step hd ?_
  show jm_putf μ idx (pc + 3) L (.int v :: .ref a :: S) (jm_mk m) = _
  unfold jm_putf
  rw [hk, hl]
  dsimp only
  rw [jm_mk_is ha hc, hr, hz]
  rfl
theorem jm_r_slen {s : Nat} (hd : decode μ.2.1 pc = .ok (.arraylength, 1)) (hs : s < 3) : jm_R d μ pc L (.ref (5000 + s) :: S) (jm_mk m) = jm_R d μ (pc + 1) L (.int (nI 6) :: S) (jm_mk m) := by
  refine jm_R_step hd ?_
  have h1 : jm_is (jm_mk m) (5000 + s) 8 = false := by
    unfold jm_is
    rw [show decide (5000 + s < (jm_mk m).1) = false from decide_eq_false (by show ¬ 5000 + s < 230; omega)]
    rfl
  show jm_if (jm_is (jm_mk m) (5000 + s) 8) _ (jm_if (decide (5000 ≤ 5000 + s ∧ 5000 + s < 5003)) _ _) = _
  rw [h1, show decide (5000 ≤ 5000 + s ∧ 5000 + s < 5003) = true from decide_eq_true (by omega)]
  rfl
theorem jm_r_ldc {key : Nat} {v : Int32} (hd : decode μ.2.1 pc = .ok (.ldc idx, 2)) (hk : jm_key μ idx = key) (hv : jm_look key jm_cT = some v) : jm_R d μ pc L S M = jm_R d μ (pc + 2) L (.int v :: S) M := by
  refine jm_R_step hd ?_
  show jm_ldc μ idx (pc + 2) L S M = _
  unfold jm_ldc
  rw [hk, hv]
  rfl
theorem jm_r_ldc_w {key : Nat} {v : Int32} (hd : decode μ.2.1 pc = .ok (.ldc_w idx, 3)) (hk : jm_key μ idx = key) (hv : jm_look key jm_cT = some v) : jm_R d μ pc L S M = jm_R d μ (pc + 3) L (.int v :: S) M := by
  refine jm_R_step hd ?_
  show jm_ldc μ idx (pc + 3) L S M = _
  unfold jm_ldc
  rw [hk, hv]
  rfl
theorem jm_r_ldc2_w {key : Nat} {v : Int64} (hd : decode μ.2.1 pc = .ok (.ldc2_w idx, 3)) (hk : jm_key μ idx = key) (hv : jm_look key jm_clT = some v) : jm_R d μ pc L S M = jm_R d μ (pc + 3) L (.long v :: S) M := by
  refine jm_R_step hd ?_
  show jm_ldc2 μ idx (pc + 3) L S M = _
  unfold jm_ldc2
  rw [hk, hv]
  rfl
theorem jm_r_gs {key s : Nat} (hd : decode μ.2.1 pc = .ok (.getstatic idx, 3)) (hk : jm_key μ idx = key) (hv : jm_look key jm_gsT = some s) : jm_R d μ pc L S M = jm_R d μ (pc + 3) L (.ref (5000 + s) :: S) M := by
  refine jm_R_step hd ?_
  show jm_gets μ idx (pc + 3) L S M = _
  unfold jm_gets
  rw [hk, hv]
  rfl
theorem jm_r_mx {key : Nat} {x y : Int32} (hd : decode μ.2.1 pc = .ok (.invokestatic idx, 3)) (hk : jm_key μ idx = key) (h1 : jm_cpyT.contains key = false) (h2 : jm_maxT.contains key = true) (hl : decide (S.length ≤ 4) = true) : jm_R (d + 1) μ pc L (.int y :: .int x :: S) M = jm_R (d + 1) μ (pc + 3) L (.int (if x < y then y else x) :: S) M := by
  have hl := jm_csl hl
  refine jm_R_step hd ?_
  show jm_invs (d + 1) μ idx (pc + 3) L _ M = _
  unfold jm_invs
  rw [hk, h1, h2]
  show jm_if (decide (d + 1 ≠ 0) && decide (jm_cs S ≤ 8)) _ _ = _
  rw [hl, decide_eq_true (Nat.succ_ne_zero d)]
  rfl
theorem jm_r_mn {key : Nat} {x y : Int32} (hd : decode μ.2.1 pc = .ok (.invokestatic idx, 3)) (hk : jm_key μ idx = key) (h1 : jm_cpyT.contains key = false) (h2 : jm_maxT.contains key = false) (h3 : jm_minT.contains key = true) (hl : decide (S.length ≤ 4) = true) : jm_R (d + 1) μ pc L (.int y :: .int x :: S) M = jm_R (d + 1) μ (pc + 3) L (.int (if y < x then y else x) :: S) M := by
  have hl := jm_csl hl
  refine jm_R_step hd ?_
  show jm_invs (d + 1) μ idx (pc + 3) L _ M = _
  unfold jm_invs
  rw [hk, h1, h2, h3]
  show jm_if (decide (d + 1 ≠ 0) && decide (jm_cs S ≤ 8)) _ _ = _
  rw [hl, decide_eq_true (Nat.succ_ne_zero d)]
  rfl
theorem jm_in_nI (hj : j < n) (hn : n < 2000) : jm_in (nI j) n = true := decide_eq_true (vp_in_nI hj (by omega))
theorem jm_r_ald (hd : decode μ.2.1 pc = .ok (.iaload, 1)) (hk : jm_kd a = 8) (hl : jm_ln a = n) (hj : j < n) (hn : n < 2000) : jm_R d μ pc L (.int (nI j) :: .ref a :: S) (jm_mk m) = jm_R d μ (pc + 1) L (.int (m a j) :: S) (jm_mk m) := by
  refine jm_R_step hd ?_
  show jm_if (jm_is (jm_mk m) a 8) (jm_if (jm_in (nI j) (jm_ln a)) _ _) _ = _
  rw [jm_mk_is hk (by decide), hl, jm_in_nI hj hn, nI_clamp (by omega)]
  rfl
theorem jm_r_sld {s : Nat} (hd : decode μ.2.1 pc = .ok (.iaload, 1)) (hs : s < 3) (hj : j < 6) : jm_R d μ pc L (.int (nI j) :: .ref (5000 + s) :: S) (jm_mk m) = jm_R d μ (pc + 1) L (.int (jm_sv s j) :: S) (jm_mk m) := by
  refine jm_R_step hd ?_
  have h1 : jm_is (jm_mk m) (5000 + s) 8 = false := by
    unfold jm_is
    rw [show decide (5000 + s < (jm_mk m).1) = false from decide_eq_false (by show ¬ 5000 + s < 230; omega)]
    rfl
  show jm_if (jm_is (jm_mk m) (5000 + s) 8) _ (jm_if (decide (5000 ≤ 5000 + s ∧ 5000 + s < 5003) && jm_in (nI j) 6) _ _) = _
  rw [h1, jm_in_nI hj (by decide), show decide (5000 ≤ 5000 + s ∧ 5000 + s < 5003) = true from decide_eq_true (by omega), nI_clamp (by omega), Nat.add_sub_cancel_left]
  rfl
theorem jm_r_ast {v : Int32} (hd : decode μ.2.1 pc = .ok (.iastore, 1)) (hk : jm_kd a = 8) (hl : jm_ln a = n) (hj : j < n) (hn : n < 2000) : jm_R d μ pc L (.int v :: .int (nI j) :: .ref a :: S) (jm_mk m) = jm_R d μ (pc + 1) L S (jm_mk (jm_up m a j v)) := by
  refine jm_R_step hd ?_
  show jm_if (jm_is (jm_mk m) a 8 && jm_in (nI j) (jm_ln a)) _ _ = _
  rw [jm_mk_is hk (by decide), hl, jm_in_nI hj hn, nI_clamp (by omega)]
  rfl
theorem jm_r_bld (hd : decode μ.2.1 pc = .ok (.baload, 1)) (hk : jm_kd a = 9) (hl : jm_ln a = n) (hj : j < n) (hn : n < 2000) : jm_R d μ pc L (.int (nI j) :: .ref a :: S) (jm_mk m) = jm_R d μ (pc + 1) L (.int (m a j) :: S) (jm_mk m) := by
  refine jm_R_step hd ?_
  show jm_if (jm_is (jm_mk m) a 9 && jm_in (nI j) (jm_ln a)) _ _ = _
  rw [jm_mk_is hk (by decide), hl, jm_in_nI hj hn, nI_clamp (by omega)]
  rfl
theorem jm_r_bst (hd : decode μ.2.1 pc = .ok (.bastore, 1)) (hk : jm_kd a = 9) (hl : jm_ln a = n) (hj : j < n) (hn : n < 2000) : jm_R d μ pc L (.int (nI 1) :: .int (nI j) :: .ref a :: S) (jm_mk m) = jm_R d μ (pc + 1) L S (jm_mk (jm_up m a j (nI 1))) := by
  refine jm_R_step hd ?_
  show jm_if (decide ((jm_mk m).1 = 230) && jm_is (jm_mk m) a 9 && jm_in (nI j) (jm_ln a) && decide (nI 1 = 0 ∨ nI 1 = 1)) _ _ = _
  rw [jm_mk_is hk (by decide), hl, jm_in_nI hj hn, nI_clamp (by omega)]
  rfl
theorem jm_r_aald {b : Nat} (hd : decode μ.2.1 pc = .ok (.aaload, 1)) (hk : jm_kd a = 10 ∨ jm_kd a = 11) (hl : jm_ln a = n) (hj : j < n) (hn : n < 2000) (hb : jm_R0 a j = some b) : jm_R d μ pc L (.int (nI j) :: .ref a :: S) (jm_mk m) = jm_R d μ (pc + 1) L (.ref b :: S) (jm_mk m) := by
  refine jm_R_step hd ?_
  show jm_if ((jm_is (jm_mk m) a 10 || jm_is (jm_mk m) a 11) && jm_in (nI j) (jm_ln a)) (jm_nx _ _ (jm_rv (jm_R0 a (nI j).toNatClampNeg) :: S) _) _ = _
  have h1 : (jm_is (jm_mk m) a 10 || jm_is (jm_mk m) a 11) = true := by
    rcases hk with h | h
    · rw [jm_mk_is h (by decide)]; rfl
    · rw [jm_mk_is (k := 11) h (by decide), Bool.or_true]
  rw [h1, hl, jm_in_nI hj hn, nI_clamp (by omega), hb]
  rfl
theorem jm_r_alen (hd : decode μ.2.1 pc = .ok (.arraylength, 1)) (hk : jm_kd a = 8) (hl : jm_ln a = n) : jm_R d μ pc L (.ref a :: S) (jm_mk m) = jm_R d μ (pc + 1) L (.int (nI n) :: S) (jm_mk m) := by
  refine jm_R_step hd ?_
  show jm_if (jm_is (jm_mk m) a 8) _ _ = _
  rw [jm_mk_is hk (by decide), ← hl]
  rfl
theorem jm_r_inv {ν : jm_Md} {As S' : List Value} {key : Nat} (hd : decode μ.2.1 pc = .ok (.invokevirtual idx, 3)) (hk : jm_key μ idx = key) (hv : jm_look key jm_mthT = some (ν, n, 0)) (ha : jm_is (jm_mk m) a ν.2.2.2.2 = true) (hp : jm_pop n [] S = some (As, .ref a :: S')) (hl : (decide (S'.length ≤ 4) && decide ((jm_args (.ref a :: As)).length ≤ ν.2.2.1)) = true) : jm_R (d + 1) μ pc L S (jm_mk m) = jm_bd (jm_K d ν (.ref a :: As) (jm_mk m)) S' (d + 1) μ (pc + 3) L := by
  have hl := jm_csl2 hl
  refine jm_R_call hd ?_
  show jm_invv μ idx (pc + 3) L S (jm_mk m) = _
  unfold jm_invv
  rw [hk, hv]
  dsimp only
  rw [hp]
  dsimp only
  rw [ha]
  show jm_call ν (.ref a :: As) (pc + 3) L S' (jm_mk m) = _
  unfold jm_call
  rw [hl]
  rfl
theorem jm_r_ivs {ν : jm_Md} {As S' : List Value} {key q : Nat} (hd : decode μ.2.1 pc = .ok (.invokestatic idx, 3)) (hk : jm_key μ idx = key) (h1 : jm_cpyT.contains key = false) (h2 : jm_maxT.contains key = false) (h3 : jm_minT.contains key = false) (hv : jm_look key jm_mthT = some (ν, n, q)) (hq : q = 1 ∨ q = 3) (hp : jm_pop n [] S = some (As, S')) (hl : (decide (S'.length ≤ 4) && decide ((jm_args As).length ≤ ν.2.2.1)) = true) : jm_R (d + 1) μ pc L S M = jm_bd (jm_K d ν As M) S' (d + 1) μ (pc + 3) L := by
  have hl := jm_csl2 hl
  refine jm_R_call hd ?_
  show jm_invs (d + 1) μ idx (pc + 3) L S M = _
  unfold jm_invs
  rw [hk, h1, h2, h3, hv]
  unfold jm_if
  dsimp only
  rw [hp]
  dsimp only
  rw [decide_eq_true hq]
  dsimp only
  unfold jm_call
  rw [hl]
  rfl
theorem jm_r_cpy {b sp dp k na nb : Nat} (hd : decode μ.2.1 pc = .ok (.invokestatic idx, 3)) (hc : jm_cpyT.contains (jm_key μ idx) = true) (hka : jm_kd a = 8) (hkb : jm_kd b = 8) (hla : jm_ln a = na) (hlb : jm_ln b = nb) (ha : na < 2000) (hb : nb < 2000) (h1 : sp + k ≤ na) (h2 : dp + k ≤ nb) : jm_R (d + 1) μ pc L (.int (nI k) :: .int (nI dp) :: .ref b :: .int (nI sp) :: .ref a :: []) (jm_mk m) = jm_R (d + 1) μ (pc + 3) L [] (jm_mk (jm_cpy m a b sp dp k)) := by
  refine jm_R_step hd ?_
  show jm_invs (d + 1) μ idx (pc + 3) L _ (jm_mk m) = _
  unfold jm_invs
  rw [hc, jm_if_t]
  unfold jm_cpyx
  dsimp only
  rw [jm_mk_is hka (by decide), jm_mk_is hkb (by decide), nI_clamp (show sp < 2 ^ 31 by omega), nI_clamp (show dp < 2 ^ 31 by omega), nI_clamp (show k < 2 ^ 31 by omega), hla, hlb, decide_eq_true h1, decide_eq_true h2, decide_eq_true (nI_pos (show sp < 2 ^ 31 by omega)), decide_eq_true (nI_pos (show dp < 2 ^ 31 by omega)), decide_eq_true (nI_pos (show k < 2 ^ 31 by omega)), show decide (d + 1 ≠ 0) = true from decide_eq_true (by omega)]
  rfl
theorem jm_r_retz {x : Int32} (hd : decode μ.2.1 pc = .ok (.ireturn, 1)) (hr : μ.2.2.2.1 = some .boolean) (hx : x = nI 0 ∨ x = nI 1) : jm_R d μ pc L (.int x :: []) M = some (some (.int x), M) := by
  refine jm_R_ret hd ?_
  show jm_ret μ [.int x] M = _
  unfold jm_ret
  dsimp only
  rw [hr]
  dsimp only
  rw [show decide (x = 0 ∨ x = 1) = true from decide_eq_true hx]
  rfl
theorem jm_R0_16 (j : Nat) (hj : j < 24) : jm_R0 16 j = some (17 + 7 * j) := (by decide +kernel : ∀ j, j < 24 → jm_R0 16 j = some (17 + 7 * j)) j hj
theorem jm_R0_185 (j : Nat) (hj : j < 2) : jm_R0 185 j = some (186 + 7 * j) := (by decide +kernel : ∀ j, j < 2 → jm_R0 185 j = some (186 + 7 * j)) j hj
theorem jm_R0_2 (j : Nat) (hj : j < 8) : jm_R0 2 j = some (3 + j) := (by decide +kernel : ∀ j, j < 8 → jm_R0 2 j = some (3 + j)) j hj
end JR
