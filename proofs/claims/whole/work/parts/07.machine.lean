/-! THE LITTLE MACHINE: the same bytecode, over a memory of ints and references by offsets; what it answers is a function -/
abbrev jm_M : Type := Nat × (Nat → Nat → Int32) × (Nat → Nat → Option Nat)
abbrev jm_C : Type := Nat × List Value × List Value × jm_M
abbrev jm_A : Type := Option Value × jm_M
abbrev jm_N : Type := jm_C ⊕ ((jm_Md × List Value × jm_C) ⊕ jm_A)
/-- how much the stack holds -/
def jm_cs : List Value → Nat
  | [] => 0
  | v :: S => v.category + jm_cs S
def jm_up (f : Nat → Nat → Int32) (a j : Nat) (v : Int32) : Nat → Nat → Int32 := fun a' j' => if a' = a ∧ j' = j then v else f a' j'
def jm_upR (f : Nat → Nat → Option Nat) (a j : Nat) (v : Option Nat) : Nat → Nat → Option Nat := fun a' j' => if a' = a ∧ j' = j then v else f a' j'
def jm_cpy (f : Nat → Nat → Int32) (a b sp dp n : Nat) : Nat → Nat → Int32 := fun a' j' => if a' = b then va_cpy (f a) (f b) sp dp n j' else f a' j'
def jm_rv (r : Option Nat) : Value := match r with
  | none => .null
  | some b => .ref b
/-- is there a cell of that kind -/
def jm_is (M : jm_M) (a k : Nat) : Bool := decide (a < M.1) && decide (jm_kd a = k)
def jm_sv (s j : Nat) : Int32 := (([[-1, 0, 1, 1, 0, 4], [10, 11, 12, 11, 13, 14], [20, 21, 24, 22, 23, 23]] : List (List Int32)).getD s []).getD j 0
def jm_clr (L : List Value) (i : Nat) : List Value := match i with
  | 0 => L
  | j + 1 => match L[j]? with
    | some (.long _) => L.set j .null
    | some (.double _) => L.set j .null
    | _ => L
def jm_st1 (L : List Value) (i : Nat) (v : Value) : List Value := (jm_clr L i).set i v
def jm_st2 (L : List Value) (i : Nat) (v : Value) : List Value := ((jm_clr L i).set i v).set (i + 1) .null
def jm_pop : Nat → List Value → List Value → Option (List Value × List Value)
  | 0, acc, S => some (acc, S)
  | n + 1, acc, v :: S => jm_pop n (v :: acc) S
  | _ + 1, _, [] => none
def jm_args : List Value → List Value
  | [] => []
  | v :: r => if v.category = 2 then v :: .null :: jm_args r else v :: jm_args r
def jm_loc (μ : jm_Md) (As : List Value) : List Value := jm_args As ++ List.replicate (μ.2.2.1 - (jm_args As).length) .null
def jm_nx (pc : Nat) (L S : List Value) (M : jm_M) : Option jm_N := some (.inl (pc, L, S, M))
def jm_to (pc : Nat) (off : Int) (L S : List Value) (M : jm_M) : Option jm_N := match (pc : Int) + off with
  | .ofNat t => jm_nx t L S M
  | _ => none
def jm_if (b : Bool) (x y : Option jm_N) : Option jm_N := match b with
  | true => x
  | false => y
def jm_ldI (i pc : Nat) (L S : List Value) (M : jm_M) : Option jm_N := match L[i]? with
  | some (.int x) => jm_nx pc L (.int x :: S) M
  | _ => none
def jm_ldL (i pc : Nat) (L S : List Value) (M : jm_M) : Option jm_N := match L[i]? with
  | some (.long x) => jm_nx pc L (.long x :: S) M
  | _ => none
def jm_ldA (i pc : Nat) (L S : List Value) (M : jm_M) : Option jm_N := match L[i]? with
  | some (.ref x) => jm_nx pc L (.ref x :: S) M
  | _ => none
def jm_siI (i pc : Nat) (L S : List Value) (M : jm_M) : Option jm_N := match S with
  | .int x :: S => jm_if (decide (i < L.length)) (jm_nx pc (jm_st1 L i (.int x)) S M) none
  | _ => none
def jm_siL (i pc : Nat) (L S : List Value) (M : jm_M) : Option jm_N := match S with
  | .long x :: S => jm_if (decide (i + 1 < L.length)) (jm_nx pc (jm_st2 L i (.long x)) S M) none
  | _ => none
def jm_siA (i pc : Nat) (L S : List Value) (M : jm_M) : Option jm_N := match S with
  | .ref x :: S => jm_if (decide (i < L.length)) (jm_nx pc (jm_st1 L i (.ref x)) S M) none
  | _ => none
def jm_un (f : Int32 → Int32) (pc : Nat) (L S : List Value) (M : jm_M) : Option jm_N := match S with
  | .int a :: S => jm_nx pc L (.int (f a) :: S) M
  | _ => none
def jm_bi (f : Int32 → Int32 → Int32) (pc : Nat) (L S : List Value) (M : jm_M) : Option jm_N := match S with
  | .int b :: .int a :: S => jm_nx pc L (.int (f a b) :: S) M
  | _ => none
def jm_dv (f : Int32 → Int32 → Int32) (pc : Nat) (L S : List Value) (M : jm_M) : Option jm_N := match S with
  | .int b :: .int a :: S => jm_if (decide (b = 0)) none (jm_nx pc L (.int (f a b) :: S) M)
  | _ => none
def jm_bl (f : Int64 → Int64 → Int64) (pc : Nat) (L S : List Value) (M : jm_M) : Option jm_N := match S with
  | .long b :: .long a :: S => jm_nx pc L (.long (f a b) :: S) M
  | _ => none
def jm_dl (f : Int64 → Int64 → Int64) (pc : Nat) (L S : List Value) (M : jm_M) : Option jm_N := match S with
  | .long b :: .long a :: S => jm_if (decide (b = 0)) none (jm_nx pc L (.long (f a b) :: S) M)
  | _ => none
def jm_cd (c : Jvm.ClassFile.Cond) (x y : Int32) : Bool := match c with
  | .eq => decide (x = y)
  | .ne => decide (¬ x = y)
  | .lt => decide (x < y)
  | .ge => decide (y ≤ x)
  | .gt => decide (y < x)
  | .le => decide (x ≤ y)
def jm_key (μ : jm_Md) (i : Nat) : Nat := if i < 1000 then μ.2.2.2.2 * 1000 + i else 0
def jm_fval (M : jm_M) (ci a k : Nat) : Value := match jm_rf ci k with
  | true => jm_rv (M.2.2 a k)
  | false => .int (M.2.1 a k)
def jm_getf (μ : jm_Md) (idx pc : Nat) (L S : List Value) (M : jm_M) : Option jm_N := match jm_look (jm_key μ idx) jm_fldT, S with
  | some (ci, k), .ref a :: S => jm_if (jm_is M a ci) (jm_nx pc L (jm_fval M ci a k :: S) M) none
  | _, _ => none
/-- only in making: a reference, or a number in a final place -/
def jm_ini (μ : jm_Md) : Bool := decide (μ.1.name = "<init>")
def jm_putf (μ : jm_Md) (idx pc : Nat) (L S : List Value) (M : jm_M) : Option jm_N := match jm_look (jm_key μ idx) jm_fldT, S with
  | some (ci, k), .int v :: .ref a :: S => jm_if (jm_is M a ci && (!jm_rf ci k) && (!(ci == 7 && k == 4) || decide (v = 0 ∨ v = 1))) (jm_nx pc L S (M.1, jm_up M.2.1 a k v, M.2.2)) none
  | some (ci, k), .ref b :: .ref a :: S => jm_if (jm_is M a ci && jm_rf ci k && decide (b < M.1) && (jm_ini μ && μ.2.2.2.2 == ci)) (jm_nx pc L S (M.1, M.2.1, jm_upR M.2.2 a k (some b))) none
  | _, _ => none
def jm_gets (μ : jm_Md) (idx pc : Nat) (L S : List Value) (M : jm_M) : Option jm_N := match jm_look (jm_key μ idx) jm_gsT with
  | some s => jm_nx pc L (.ref (5000 + s) :: S) M
  | none => none
def jm_in (i : Int32) (n : Nat) : Bool := decide (¬ (i < 0 ∨ n ≤ i.toNatClampNeg))
def jm_iald (pc : Nat) (L S : List Value) (M : jm_M) : Option jm_N := match S with
  | .int i :: .ref a :: S => jm_if (jm_is M a 8) (jm_if (jm_in i (jm_ln a)) (jm_nx pc L (.int (M.2.1 a i.toNatClampNeg) :: S) M) none)
      (jm_if (decide (5000 ≤ a ∧ a < 5003) && jm_in i 6) (jm_nx pc L (.int (jm_sv (a - 5000) i.toNatClampNeg) :: S) M) none)
  | _ => none
def jm_bald (pc : Nat) (L S : List Value) (M : jm_M) : Option jm_N := match S with
  | .int i :: .ref a :: S => jm_if (jm_is M a 9 && jm_in i (jm_ln a)) (jm_nx pc L (.int (M.2.1 a i.toNatClampNeg) :: S) M) none
  | _ => none
def jm_aald (pc : Nat) (L S : List Value) (M : jm_M) : Option jm_N := match S with
  | .int i :: .ref a :: S => jm_if ((jm_is M a 10 || jm_is M a 11) && jm_in i (jm_ln a)) (jm_nx pc L (jm_rv (M.2.2 a i.toNatClampNeg) :: S) M) none
  | _ => none
def jm_iast (pc : Nat) (L S : List Value) (M : jm_M) : Option jm_N := match S with
  | .int v :: .int i :: .ref a :: S => jm_if (jm_is M a 8 && jm_in i (jm_ln a)) (jm_nx pc L S (M.1, jm_up M.2.1 a i.toNatClampNeg v, M.2.2)) none
  | _ => none
def jm_bast (pc : Nat) (L S : List Value) (M : jm_M) : Option jm_N := match S with
  | .int v :: .int i :: .ref a :: S => jm_if (decide (M.1 = 230) && jm_is M a 9 && jm_in i (jm_ln a) && decide (v = 0 ∨ v = 1)) (jm_nx pc L S (M.1, jm_up M.2.1 a i.toNatClampNeg v, M.2.2)) none
  | _ => none
def jm_aast (pc : Nat) (L S : List Value) (M : jm_M) : Option jm_N := match S with
  | .ref b :: .int i :: .ref a :: S => jm_if (jm_is M a 10 && jm_is M b 2 && jm_in i (jm_ln a)) (jm_nx pc L S (M.1, M.2.1, jm_upR M.2.2 a i.toNatClampNeg (some b))) none
  | _ => none
def jm_alen (pc : Nat) (L S : List Value) (M : jm_M) : Option jm_N := match S with
  | .ref a :: S => jm_if (jm_is M a 8) (jm_nx pc L (.int (Int32.ofNat (jm_ln a)) :: S) M) (jm_if (decide (5000 ≤ a ∧ a < 5003)) (jm_nx pc L (.int 6 :: S) M) none)
  | _ => none
/-- a new cell: the next one of the layout, all 0 and null -/
def jm_grow (M : jm_M) : jm_M := (M.1 + 1, (fun a j => if a = M.1 then 0 else M.2.1 a j), (fun a j => if a = M.1 then none else M.2.2 a j))
def jm_newo (μ : jm_Md) (idx pc : Nat) (L S : List Value) (M : jm_M) : Option jm_N := match jm_look (jm_key μ idx) jm_newT with
  | some ci => jm_if (decide (jm_kd M.1 = ci)) (jm_nx pc L (.ref M.1 :: S) (jm_grow M)) none
  | none => none
def jm_newa (k : Nat) (pc : Nat) (L S : List Value) (M : jm_M) : Option jm_N := match S with
  | .int n :: S => jm_if (decide (jm_kd M.1 = k) && decide (n = Int32.ofNat (jm_ln M.1))) (jm_nx pc L (.ref M.1 :: S) (jm_grow M)) none
  | _ => none
def jm_newq (μ : jm_Md) (idx pc : Nat) (L S : List Value) (M : jm_M) : Option jm_N := match jm_look (jm_key μ idx) jm_newT, S with
  | some ci, .int n :: S => jm_if (decide (ci = 2) && decide (jm_kd M.1 = 10) && decide (n = Int32.ofNat (jm_ln M.1))) (jm_nx pc L (.ref M.1 :: S) (jm_grow M)) none
  | _, _ => none
/-- new int[8][40] -/
def jm_grid (μ : jm_Md) (idx pc : Nat) (L S : List Value) (M : jm_M) : Option jm_N := match S with
  | .int k :: .int n :: S => jm_if (decide (jm_key μ idx = 3009) && decide (k = 40) && decide (n = 8) && decide (jm_kd M.1 = 11) && decide (jm_ln M.1 = 8) && (List.range 8).all (fun j => decide (jm_kd (M.1 + 1 + j) = 8) && decide (jm_ln (M.1 + 1 + j) = 40)))
      (jm_nx pc L (.ref M.1 :: S) (M.1 + 9, (fun a j => if M.1 ≤ a ∧ a < M.1 + 9 then 0 else M.2.1 a j), (fun a j => if a = M.1 then (if j < 8 then some (M.1 + 1 + j) else none) else if M.1 ≤ a ∧ a < M.1 + 9 then none else M.2.2 a j))) none
  | _ => none
def jm_cpyx (d pc : Nat) (L S : List Value) (M : jm_M) : Option jm_N := match S with
  | .int n :: .int dp :: .ref b :: .int sp :: .ref a :: S => jm_if (decide (M.1 = 230) && decide (d ≠ 0) && decide (jm_cs S ≤ 8) && jm_is M a 8 && jm_is M b 8 && decide (¬ sp < 0) && decide (¬ dp < 0) && decide (¬ n < 0) && decide (sp.toNatClampNeg + n.toNatClampNeg ≤ jm_ln a) && decide (dp.toNatClampNeg + n.toNatClampNeg ≤ jm_ln b))
      (jm_nx pc L S (M.1, jm_cpy M.2.1 a b sp.toNatClampNeg dp.toNatClampNeg n.toNatClampNeg, M.2.2)) none
  | _ => none
def jm_call (μ : jm_Md) (As : List Value) (pc : Nat) (L S : List Value) (M : jm_M) : Option jm_N := jm_if (decide (jm_cs S ≤ 8) && decide ((jm_args As).length ≤ μ.2.2.1)) (some (.inr (.inl (μ, As, pc, L, S, M)))) none
/-- Math.max, Math.min -/
def jm_mmx (mx : Bool) (d pc : Nat) (L S : List Value) (M : jm_M) : Option jm_N := match S with
  | .int b :: .int a :: S => jm_if (decide (d ≠ 0) && decide (jm_cs S ≤ 8)) (jm_nx pc L (.int (match mx with | true => (if a < b then b else a) | false => (if b < a then b else a)) :: S) M) none
  | _ => none
def jm_invs (d : Nat) (μ : jm_Md) (idx pc : Nat) (L S : List Value) (M : jm_M) : Option jm_N := jm_if (jm_cpyT.contains (jm_key μ idx)) (jm_cpyx d pc L S M) (jm_if (jm_maxT.contains (jm_key μ idx)) (jm_mmx true d pc L S M) (jm_if (jm_minT.contains (jm_key μ idx)) (jm_mmx false d pc L S M) (match jm_look (jm_key μ idx) jm_mthT with
  | some (ν, n, q) => match jm_pop n [] S with
    | some (As, S) => jm_if (decide (q = 1 ∨ q = 3)) (jm_call ν As pc L S M) none
    | none => none
  | none => none)))
def jm_invv (μ : jm_Md) (idx pc : Nat) (L S : List Value) (M : jm_M) : Option jm_N := match jm_look (jm_key μ idx) jm_mthT with
  | some (ν, n, q) => match jm_pop n [] S with
    | some (As, .ref a :: S) => jm_if (jm_is M a ν.2.2.2.2 && decide (q = 0)) (jm_call ν (.ref a :: As) pc L S M) none
    | _ => none
  | none => none
def jm_invi (d : Nat) (μ : jm_Md) (idx pc : Nat) (L S : List Value) (M : jm_M) : Option jm_N := jm_if (jm_objT.contains (jm_key μ idx)) (match S with
  | .ref _ :: S => jm_if (decide (d ≠ 0) && decide (jm_cs S ≤ 8)) (jm_nx pc L S M) none
  | _ => none) (match jm_look (jm_key μ idx) jm_mthT with
  | some (ν, n, q) => match jm_pop n [] S with
    | some (As, .ref a :: S) => jm_if (jm_is M a ν.2.2.2.2 && decide (q = 2 ∨ q = 4)) (jm_call ν (.ref a :: As) pc L S M) none
    | _ => none
  | none => none)
def jm_tsw (dflt lo hi : Int) (offs : Array Int) (pc : Nat) (L S : List Value) (M : jm_M) : Option jm_N := match S with
  | .int x :: S => jm_if (decide (x.toInt < lo ∨ hi < x.toInt)) (jm_to pc dflt L S M) (match offs[(x.toInt - lo).toNat]? with
    | some off => jm_to pc off L S M
    | none => none)
  | _ => none
def jm_lsw (dflt : Int) (ps : Array (Int × Int)) (pc : Nat) (L S : List Value) (M : jm_M) : Option jm_N := match S with
  | .int x :: S => jm_if ((ps.toList.zip (ps.toList.drop 1)).all (fun (a, next) => a.1 < next.1)) (jm_to pc (Op.lookupswitch.offset ps.toList dflt x.toInt) L S M) none
  | _ => none
def jm_ret (μ : jm_Md) (S : List Value) (M : jm_M) : Option jm_N := match S with
  | [.int v] => match μ.2.2.2.1 with
    | some .int => some (.inr (.inr (some (.int v), M)))
    | some .boolean => jm_if (decide (v = 0 ∨ v = 1)) (some (.inr (.inr (some (.int v), M)))) none
    | _ => none
  | _ => none
def jm_retl (μ : jm_Md) (S : List Value) (M : jm_M) : Option jm_N := match S, μ.2.2.2.1 with
  | [.long v], some .long => some (.inr (.inr (some (.long v), M)))
  | _, _ => none
def jm_reta (μ : jm_Md) (S : List Value) (M : jm_M) : Option jm_N := match S, μ.2.2.2.1 with
  | [.ref v], some (.object _) => some (.inr (.inr (some (.ref v), M)))
  | _, _ => none
def jm_retv (μ : jm_Md) (S : List Value) (M : jm_M) : Option jm_N := match S, μ.2.2.2.1 with
  | [], none => some (.inr (.inr (none, M)))
  | _, _ => none
def jm_dup (pc : Nat) (L S : List Value) (M : jm_M) : Option jm_N := match S with
  | .int a :: S => jm_nx pc L (.int a :: .int a :: S) M
  | .ref a :: S => jm_nx pc L (.ref a :: .ref a :: S) M
  | _ => none
def jm_dup2 (pc : Nat) (L S : List Value) (M : jm_M) : Option jm_N := match S with
  | .int a :: .ref b :: S => jm_nx pc L (.int a :: .ref b :: .int a :: .ref b :: S) M
  | _ => none
def jm_pop1 (pc : Nat) (L S : List Value) (M : jm_M) : Option jm_N := match S with
  | .int _ :: S => jm_nx pc L S M
  | .ref _ :: S => jm_nx pc L S M
  | _ => none
def jm_iinc (i : Nat) (z : Int) (pc : Nat) (L S : List Value) (M : jm_M) : Option jm_N := match L[i]? with
  | some (.int x) => jm_nx pc (jm_st1 L i (.int (x + Int32.ofInt z))) S M
  | _ => none
def jm_lcmp (pc : Nat) (L S : List Value) (M : jm_M) : Option jm_N := match S with
  | .long b :: .long a :: S => jm_nx pc L (.int (lg_cmp a b) :: S) M
  | _ => none
def jm_i2l (pc : Nat) (L S : List Value) (M : jm_M) : Option jm_N := match S with
  | .int a :: S => jm_nx pc L (.long a.toInt64 :: S) M
  | _ => none
def jm_l2i (pc : Nat) (L S : List Value) (M : jm_M) : Option jm_N := match S with
  | .long a :: S => jm_nx pc L (.int a.toInt32 :: S) M
  | _ => none
def jm_sel (b : Bool) (x y : Nat) : Nat := match b with
  | true => x
  | false => y
/-- a branch -/
def jm_br (b : Bool) (off : Int) (pc : Nat) (L S : List Value) (M : jm_M) : Option jm_N := match (pc : Int) + off with
  | .ofNat t => jm_nx (jm_sel b t (pc + 3)) L S M
  | _ => none
def jm_icmp (c : Jvm.ClassFile.Cond) (off : Int) (pc : Nat) (L S : List Value) (M : jm_M) : Option jm_N := match S with
  | .int b :: .int a :: S => jm_br (jm_cd c a b) off pc L S M
  | _ => none
def jm_ifc (c : Jvm.ClassFile.Cond) (off : Int) (pc : Nat) (L S : List Value) (M : jm_M) : Option jm_N := match S with
  | .int a :: S => jm_br (jm_cd c a 0) off pc L S M
  | _ => none
def jm_ldc (μ : jm_Md) (idx pc : Nat) (L S : List Value) (M : jm_M) : Option jm_N := match jm_look (jm_key μ idx) jm_cT with
  | some v => jm_nx pc L (.int v :: S) M
  | none => none
def jm_ldc2 (μ : jm_Md) (idx pc : Nat) (L S : List Value) (M : jm_M) : Option jm_N := match jm_look (jm_key μ idx) jm_clT with
  | some v => jm_nx pc L (.long v :: S) M
  | none => none
def jm_ln' (n k : Nat) (x : Option jm_N) : Option jm_N := jm_if (decide (n = k)) x none
def jm_ex (d : Nat) (μ : jm_Md) (i : Instr) (n pc : Nat) (L S : List Value) (M : jm_M) : Option jm_N :=
  match i with
  | .iconst z => jm_ln' n 1 (jm_nx (pc + 1) L (.int (Int32.ofInt z) :: S) M)
  | .bipush z => jm_ln' n 2 (jm_nx (pc + 2) L (.int (Int8.ofInt z).toInt32 :: S) M)
  | .sipush z => jm_ln' n 3 (jm_nx (pc + 3) L (.int (Int16.ofInt z).toInt32 :: S) M)
  | .lconst z => jm_ln' n 1 (jm_nx (pc + 1) L (.long (Int64.ofNat (z : Nat)) :: S) M)
  | .ldc k => jm_ln' n 2 (jm_ldc μ k (pc + 2) L S M)
  | .ldc_w k => jm_ln' n 3 (jm_ldc μ k (pc + 3) L S M)
  | .ldc2_w k => jm_ln' n 3 (jm_ldc2 μ k (pc + 3) L S M)
  | .iload_n k => jm_ln' n 1 (jm_ldI k (pc + 1) L S M)
  | .iload k => jm_ln' n 2 (jm_ldI k (pc + 2) L S M)
  | .lload_n k => jm_ln' n 1 (jm_ldL k (pc + 1) L S M)
  | .lload k => jm_ln' n 2 (jm_ldL k (pc + 2) L S M)
  | .aload_n k => jm_ln' n 1 (jm_ldA k (pc + 1) L S M)
  | .aload k => jm_ln' n 2 (jm_ldA k (pc + 2) L S M)
  | .istore_n k => jm_ln' n 1 (jm_siI k (pc + 1) L S M)
  | .istore k => jm_ln' n 2 (jm_siI k (pc + 2) L S M)
  | .lstore_n k => jm_ln' n 1 (jm_siL k (pc + 1) L S M)
  | .lstore k => jm_ln' n 2 (jm_siL k (pc + 2) L S M)
  | .astore_n k => jm_ln' n 1 (jm_siA k (pc + 1) L S M)
  | .astore k => jm_ln' n 2 (jm_siA k (pc + 2) L S M)
  | .iinc k z => jm_ln' n 3 (jm_iinc k z (pc + 3) L S M)
  | .iadd => jm_ln' n 1 (jm_bi (fun a b => a + b) (pc + 1) L S M)
  | .isub => jm_ln' n 1 (jm_bi (fun a b => a - b) (pc + 1) L S M)
  | .imul => jm_ln' n 1 (jm_bi (fun a b => a * b) (pc + 1) L S M)
  | .iand => jm_ln' n 1 (jm_bi (fun a b => a &&& b) (pc + 1) L S M)
  | .ior => jm_ln' n 1 (jm_bi (fun a b => a ||| b) (pc + 1) L S M)
  | .ixor => jm_ln' n 1 (jm_bi (fun a b => a ^^^ b) (pc + 1) L S M)
  | .ishl => jm_ln' n 1 (jm_bi (fun a b => a <<< (b &&& 31)) (pc + 1) L S M)
  | .ishr => jm_ln' n 1 (jm_bi (fun a b => a >>> (b &&& 31)) (pc + 1) L S M)
  | .iushr => jm_ln' n 1 (jm_bi (fun a b => (a.toUInt32 >>> (b.toUInt32 &&& Int32.toUInt32 31)).toInt32) (pc + 1) L S M)
  | .idiv => jm_ln' n 1 (jm_dv (fun a b => a / b) (pc + 1) L S M)
  | .irem => jm_ln' n 1 (jm_dv (fun a b => a - a / b * b) (pc + 1) L S M)
  | .ineg => jm_ln' n 1 (jm_un (fun a => -a) (pc + 1) L S M)
  | .i2b => jm_ln' n 1 (jm_un (fun a => a.toInt8.toInt32) (pc + 1) L S M)
  | .i2s => jm_ln' n 1 (jm_un (fun a => a.toInt16.toInt32) (pc + 1) L S M)
  | .ladd => jm_ln' n 1 (jm_bl (fun a b => a + b) (pc + 1) L S M)
  | .lsub => jm_ln' n 1 (jm_bl (fun a b => a - b) (pc + 1) L S M)
  | .lmul => jm_ln' n 1 (jm_bl (fun a b => a * b) (pc + 1) L S M)
  | .ldiv => jm_ln' n 1 (jm_dl (fun a b => a / b) (pc + 1) L S M)
  | .lrem => jm_ln' n 1 (jm_dl (fun a b => a - a / b * b) (pc + 1) L S M)
  | .lcmp => jm_ln' n 1 (jm_lcmp (pc + 1) L S M)
  | .i2l => jm_ln' n 1 (jm_i2l (pc + 1) L S M)
  | .l2i => jm_ln' n 1 (jm_l2i (pc + 1) L S M)
  | .dup => jm_ln' n 1 (jm_dup (pc + 1) L S M)
  | .dup2 => jm_ln' n 1 (jm_dup2 (pc + 1) L S M)
  | .pop => jm_ln' n 1 (jm_pop1 (pc + 1) L S M)
  | .ifCond c off => jm_ln' n 3 (jm_ifc c off pc L S M)
  | .if_icmp c off => jm_ln' n 3 (jm_icmp c off pc L S M)
  | .goto off => jm_ln' n 3 (jm_to pc off L S M)
  | .tableswitch dflt lo hi offs => jm_tsw dflt lo hi offs pc L S M
  | .lookupswitch dflt ps => jm_lsw dflt ps pc L S M
  | .getfield k => jm_ln' n 3 (jm_getf μ k (pc + 3) L S M)
  | .putfield k => jm_ln' n 3 (jm_putf μ k (pc + 3) L S M)
  | .getstatic k => jm_ln' n 3 (jm_gets μ k (pc + 3) L S M)
  | .iaload => jm_ln' n 1 (jm_iald (pc + 1) L S M)
  | .iastore => jm_ln' n 1 (jm_iast (pc + 1) L S M)
  | .baload => jm_ln' n 1 (jm_bald (pc + 1) L S M)
  | .bastore => jm_ln' n 1 (jm_bast (pc + 1) L S M)
  | .aaload => jm_ln' n 1 (jm_aald (pc + 1) L S M)
  | .aastore => jm_ln' n 1 (jm_aast (pc + 1) L S M)
  | .arraylength => jm_ln' n 1 (jm_alen (pc + 1) L S M)
  | .new k => jm_ln' n 3 (jm_newo μ k (pc + 3) L S M)
  | .newarray ty => jm_ln' n 2 (match ty with | .int => jm_newa 8 (pc + 2) L S M | .boolean => jm_newa 9 (pc + 2) L S M | _ => none)
  | .anewarray k => jm_ln' n 3 (jm_newq μ k (pc + 3) L S M)
  | .multianewarray k 2 => jm_ln' n 4 (jm_grid μ k (pc + 4) L S M)
  | .invokestatic k => jm_ln' n 3 (jm_invs d μ k (pc + 3) L S M)
  | .invokevirtual k => jm_ln' n 3 (jm_invv μ k (pc + 3) L S M)
  | .invokespecial k => jm_ln' n 3 (jm_invi d μ k (pc + 3) L S M)
  | .ireturn => jm_ln' n 1 (jm_ret μ S M)
  | .lreturn => jm_ln' n 1 (jm_retl μ S M)
  | .areturn => jm_ln' n 1 (jm_reta μ S M)
  | .return_ => jm_ln' n 1 (jm_retv μ S M)
  | _ => none
/-- depth, fuel -/
def jm_run : Nat → Nat → jm_Md → Nat → List Value → List Value → jm_M → Option jm_A
  | _, 0, _, _, _, _, _ => none
  | d, f + 1, μ, pc, L, S, M => match decode μ.2.1 pc with
    | .ok (i, n) => match jm_ex d μ i n pc L S M with
      | some (.inl (pc', L', S', M')) => jm_run d f μ pc' L' S' M'
      | some (.inr (.inl (ν, As, pc', L', S', M'))) => match d with
        | 0 => none
        | d' + 1 => match jm_run d' f ν 0 (jm_loc ν As) [] M' with
          | some (r, M'') => jm_run (d' + 1) f μ pc' L' (r.toList ++ S') M''
          | none => none
      | some (.inr (.inr r)) => some r
      | none => none
    | _ => none
theorem jm_mono : ∀ (f d : Nat) (μ : jm_Md) (pc : Nat) (L S : List Value) (M : jm_M) (v : jm_A), jm_run d f μ pc L S M = some v → jm_run d (f + 1) μ pc L S M = some v := by
  intro f
  induction f with
  | zero => intro d μ pc L S M v h; simp [jm_run] at h
  | succ f ih =>
    intro d μ pc L S M v h
    unfold jm_run at h ⊢
    generalize decode μ.2.1 pc = D at h ⊢
    cases D with
    | error => simp at h
    | ok x =>
      obtain ⟨i, n⟩ := x
      dsimp only at h ⊢
      generalize jm_ex d μ i n pc L S M = X at h ⊢
      rcases X with _ | (⟨pc', L', S', M'⟩ | (⟨ν, As, pc', L', S', M'⟩ | r))
      · simp at h
      · dsimp only at h ⊢; exact ih _ _ _ _ _ _ _ h
      · cases d with
        | zero => simp at h
        | succ d' =>
          dsimp only at h ⊢
          cases hy : jm_run d' f ν 0 (jm_loc ν As) [] M' with
          | none => rw [hy] at h; simp at h
          | some w => rw [hy] at h; rw [ih _ _ _ _ _ _ _ hy]; exact ih _ _ _ _ _ _ _ h
      · exact h
theorem jm_mono' {f g d : Nat} {μ : jm_Md} {pc : Nat} {L S : List Value} {M : jm_M} {v : jm_A} (hfg : f ≤ g) (h : jm_run d f μ pc L S M = some v) : jm_run d g μ pc L S M = some v := by
  induction g with
  | zero => have : f = 0 := by omega
            subst this; exact h
  | succ g ih =>
    by_cases hq : f ≤ g
    · exact jm_mono _ _ _ _ _ _ _ _ (ih hq)
    · have : f = g + 1 := by omega
      subst this; exact h
/-- what it comes to, if it comes to anything -/
noncomputable def jm_R (d : Nat) (μ : jm_Md) (pc : Nat) (L S : List Value) (M : jm_M) : Option jm_A := @dite _ (∃ (v : jm_A) (f : Nat), jm_run d f μ pc L S M = some v) (Classical.propDecidable _) (fun h => some h.choose) (fun _ => none)
theorem jm_R_of {d f : Nat} {μ : jm_Md} {pc : Nat} {L S : List Value} {M : jm_M} {v : jm_A} (h : jm_run d f μ pc L S M = some v) : jm_R d μ pc L S M = some v := by
  have hex : ∃ (v : jm_A) (f : Nat), jm_run d f μ pc L S M = some v := ⟨v, f, h⟩
  unfold jm_R
  rw [dif_pos hex]
  obtain ⟨g, hg⟩ := hex.choose_spec
  have h1 := jm_mono' (Nat.le_max_left f g) h
  have h2 := jm_mono' (Nat.le_max_right f g) hg
  rw [h1] at h2
  exact h2.symm
theorem jm_R_iff {d : Nat} {μ : jm_Md} {pc : Nat} {L S : List Value} {M : jm_M} {v : jm_A} : jm_R d μ pc L S M = some v ↔ ∃ f, jm_run d f μ pc L S M = some v := by
  constructor
  · intro h
    by_cases hex : ∃ (v : jm_A) (f : Nat), jm_run d f μ pc L S M = some v
    · obtain ⟨w, f, hf⟩ := hex
      have := jm_R_of hf
      rw [h] at this
      cases this
      exact ⟨f, hf⟩
    · unfold jm_R at h
      rw [dif_neg hex] at h
      cases h
  · rintro ⟨f, hf⟩
    exact jm_R_of hf
theorem jm_R_step {d : Nat} {μ : jm_Md} {pc pc' : Nat} {L S L' S' : List Value} {M M' : jm_M} {i : Instr} {n : Nat} (hd : decode μ.2.1 pc = .ok (i, n)) (hx : jm_ex d μ i n pc L S M = some (.inl (pc', L', S', M'))) : jm_R d μ pc L S M = jm_R d μ pc' L' S' M' := by
  have key : ∀ f, jm_run d (f + 1) μ pc L S M = jm_run d f μ pc' L' S' M' := fun f => by
    conv => lhs; unfold jm_run
    rw [hd]; dsimp only; rw [hx]
  apply Option.ext
  intro v
  rw [jm_R_iff, jm_R_iff]
  constructor
  · rintro ⟨f, hf⟩
    exact ⟨f, by rw [← key]; exact jm_mono _ _ _ _ _ _ _ _ hf⟩
  · rintro ⟨f, hf⟩
    exact ⟨f + 1, by rw [key]; exact hf⟩
theorem jm_R_ret {d : Nat} {μ : jm_Md} {pc : Nat} {L S : List Value} {M : jm_M} {i : Instr} {n : Nat} {r : jm_A} (hd : decode μ.2.1 pc = .ok (i, n)) (hx : jm_ex d μ i n pc L S M = some (.inr (.inr r))) : jm_R d μ pc L S M = some r :=
  jm_R_of (f := 1) (by unfold jm_run; rw [hd]; dsimp only; rw [hx])
noncomputable def jm_K (d : Nat) (μ : jm_Md) (As : List Value) (M : jm_M) : Option jm_A := jm_R d μ 0 (jm_loc μ As) [] M
theorem jm_R_call {d : Nat} {μ ν : jm_Md} {pc pc' : Nat} {L S L' S' As : List Value} {M M' : jm_M} {i : Instr} {n : Nat} (hd : decode μ.2.1 pc = .ok (i, n)) (hx : jm_ex (d + 1) μ i n pc L S M = some (.inr (.inl (ν, As, pc', L', S', M')))) : jm_R (d + 1) μ pc L S M = (jm_K d ν As M').bind (fun r => jm_R (d + 1) μ pc' L' (r.1.toList ++ S') r.2) := by
  have key : ∀ f, jm_run (d + 1) (f + 1) μ pc L S M = (jm_run d f ν 0 (jm_loc ν As) [] M').bind (fun r => jm_run (d + 1) f μ pc' L' (r.1.toList ++ S') r.2) := fun f => by
    conv => lhs; unfold jm_run
    rw [hd]; dsimp only; rw [hx]; dsimp only
    cases jm_run d f ν 0 (jm_loc ν As) [] M' <;> rfl
  apply Option.ext
  intro v
  rw [jm_R_iff, Option.bind_eq_some_iff]
  constructor
  · rintro ⟨f, hf⟩
    have hf := jm_mono _ _ _ _ _ _ _ _ hf
    rw [key, Option.bind_eq_some_iff] at hf
    obtain ⟨r, h1, h2⟩ := hf
    exact ⟨r, jm_R_of h1, jm_R_of h2⟩
  · rintro ⟨r, h1, h2⟩
    obtain ⟨f, hf⟩ := jm_R_iff.mp h1
    obtain ⟨g, hg⟩ := jm_R_iff.mp h2
    refine ⟨max f g + 1, ?_⟩
    rw [key, jm_mono' (Nat.le_max_left f g) hf]
    exact jm_mono' (Nat.le_max_right f g) hg
