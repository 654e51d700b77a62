/-! THE ABSTRACT MACHINE, 2: one step, runs -/
def zfind {α : Type} (t : List (Nat × Nat × α)) (o : Nat) (i : Nat) : Option α := (t.find? (fun e => e.2.1 == i && e.1 == o)).map (fun e => e.2.2)
theorem zfind_mem {α : Type} {t : List (Nat × Nat × α)} {o : Nat} {i : Nat} {x : α} (h : zfind t o i = some x) : (o, i, x) ∈ t := by
  unfold zfind at h
  cases hf : t.find? (fun e => e.2.1 == i && e.1 == o) with
  | none => rw [hf] at h; cases h
  | some e =>
    rw [hf] at h
    have h1 := List.find?_some hf
    have h2 := List.mem_of_find?_eq_some hf
    simp only [Bool.and_eq_true, beq_iff_eq] at h1
    simp only [Option.map_some, Option.some.injEq] at h
    obtain ⟨e1, e2, e3⟩ := e
    simp only at h1 h
    rw [← h, ← h1.1, ← h1.2]
    exact h2
abbrev zO : Type := Option ((Nat × List zV × List zV × zH) ⊕ (zV × zH) ⊕ (zMd × List zV × Nat × List zV × List zV))
def zgo (pc : Nat) (L st : List zV) (h : zH) : zO := some (.inl (pc, L, st, h))
def zg (b : Bool) (x : zO) : zO := match b with
  | true => x
  | false => none
/-- a jump -/
def zj (pc : Nat) (off : Int) (L st : List zV) (h : zH) : zO := zg (decide (0 ≤ (pc : Int) + off)) (zgo ((pc : Int) + off).toNat L st h)
def zcat (v : zV) : Nat := match v with
  | .inr (.inr (.inl _)) => 2
  | _ => 1
def zrm8 (st : List zV) : Bool := decide ((st.map zcat).sum ≤ 8)
def zcmp (c : ClassFile.Cond) (x y : Int) : Bool := match c with
  | .eq => decide (x = y)
  | .ne => decide (¬ x = y)
  | .lt => decide (x < y)
  | .ge => decide (y ≤ x)
  | .gt => decide (y < x)
  | .le => decide (x ≤ y)
/-- a field of a cell -/
def zfo (c : zC) (ci k : Nat) : Option zV := match c with
  | .inl (cj, fs) => if cj = ci then fs[k]? else none
  | .inr _ => none
/-- whether a value may stand in a field of a type -/
def zfit (t : Int) (v : zV) : Bool := match v with
  | .inl z => decide (t = 0) || (decide (t = 1) && (decide (z = 0) || decide (z = 1)))
  | .inr (.inl _) => decide (t = 3)
  | .inr (.inr (.inl _)) => decide (t = 2)
  | _ => false
/-- whether a value is of a field's type -/
def ztp (t : Int) (v : zV) : Bool := match v with
  | .inl _ => decide (t = 0) || decide (t = 1)
  | .inr (.inl _) => decide (t = 3)
  | .inr (.inr (.inl _)) => decide (t = 2)
  | _ => false
def zpf (c : zC) (ci k : Nat) (v : zV) : Option zC := match c with
  | .inl (cj, fs) => if cj = ci ∧ k < fs.length then some (.inl (cj, fs.set k v)) else none
  | .inr _ => none
/-- an element of an array of a kind -/
def zel (c : zC) (kd : Nat) (z : Int) : Option Int := match c with
  | .inr (k, n, f) => if k = kd ∧ 0 ≤ z ∧ z < (n : Int) then some (f z.toNat) else none
  | .inl _ => none
def zst (c : zC) (kd : Nat) (z v : Int) : Option zC := match c with
  | .inr (k, n, f) => if k = kd ∧ 0 ≤ z ∧ z < (n : Int) then some (.inr (k, n, fup f z.toNat v)) else none
  | .inl _ => none
def zle (c : zC) : Option Int := match c with
  | .inr (_, n, _) => if n < 2147483648 then some n else none
  | .inl _ => none
/-- whether a cell is an object of a class -/
def zis (c : zC) (ci : Nat) : Bool := match c with
  | .inl (cj, _) => decide (cj = ci)
  | .inr _ => false
def zak (t : ArrayType) : Option Nat := match t with
  | .byte => some 0
  | .int => some 1
  | .long => some 2
  | .boolean => some 3
  | _ => none
def zcopy (c d : zC) (sp dp n : Int) : Option zC := match c, d with
  | .inr (k, m, f), .inr (k', m', f') => if k = 1 ∧ k' = 1 ∧ 0 ≤ sp ∧ 0 ≤ dp ∧ 0 ≤ n ∧ sp + n ≤ (m : Int) ∧ dp + n ≤ (m' : Int) then some (.inr (k', m', va_cpy f f' sp.toNat dp.toNat n.toNat)) else none
  | _, _ => none
/-- the String constants: their addresses, their bytes -/
def zsa (k : Nat) : Nat := k + 1000000001
def zbyt : List (List Int) := zSt.map (fun q => q.2.2.toList.map (fun c => (c.toNat : Int)))
def zsl (a : Nat) : Option Int := if zsa 0 ≤ a then (zbyt[a - zsa 0]?).map (fun l => (l.length : Int)) else none
def zsc (a : Nat) (z : Int) : Option Int := if zsa 0 ≤ a ∧ 0 ≤ z then (zbyt[a - zsa 0]?).bind (fun l => l[z.toNat]?) else none
def q2 (f : Int32 → Int32 → Int32) (x y : Int) : Int := (f (Int32.ofInt x) (Int32.ofInt y)).toInt
def q4 (f : Int64 → Int64 → Int64) (x y : Int) : Int := (f (Int64.ofInt x) (Int64.ofInt y)).toInt
def qrem (x y : Int32) : Int32 := x - x / y * y
def qreml (x y : Int64) : Int64 := x - x / y * y
def qshl (x y : Int32) : Int32 := x <<< (y &&& 31)
def qshr (x y : Int32) : Int32 := x >>> (y &&& 31)
def qushr (x y : Int32) : Int32 := (x.toUInt32 >>> (y.toUInt32 &&& Int32.toUInt32 31)).toInt32
def qlshl (x : Int64) (y : Int32) : Int64 := x <<< (y.toInt64 &&& 63)
def qlushr (x : Int64) (y : Int32) : Int64 := (x.toUInt64 >>> (y.toInt64.toUInt64 &&& Int64.toUInt64 63)).toInt64
def q42 (f : Int64 → Int32 → Int64) (x y : Int) : Int := (f (Int64.ofInt x) (Int32.ofInt y)).toInt
def i8 (z : Int) : Int := (vp_nar .byte (Int32.ofInt z)).toInt
def i1 (z : Int) : Int := (vp_nar .boolean (Int32.ofInt z)).toInt
def ib (z : Int) : Int := (Int32.ofInt z).toInt8.toInt32.toInt
def lcm (x y : Int) : Int := if y < x then 1 else if x = y then 0 else -1
def zsp : List zV → List zV
  | [] => []
  | v :: r => if zcat v = 2 then v :: vs :: zsp r else v :: zsp r
/-- a call, if there is room for it -/
def zca (M Y : zMd) (as : List zV) (pc : Nat) (L st : List zV) : zO := zg (decide (mF Y + 1 ≤ mF M) && decide (8 + (mL Y + 11) + mW Y ≤ mW M) && zrm8 st && decide ((zsp as).length ≤ mL Y)) (some (.inr (.inr (Y, as, pc, L, st))))
def ar2 (st : List zV) (k : Int → Int → zO) : zO := match st with
  | .inl y :: .inl x :: _ => k x y
  | _ => none
def ll2 (st : List zV) (k : Int → Int → zO) : zO := match st with
  | .inr (.inr (.inl y)) :: .inr (.inr (.inl x)) :: _ => k x y
  | _ => none
def li2 (st : List zV) (k : Int → Int → zO) : zO := match st with
  | .inl y :: .inr (.inr (.inl x)) :: _ => k x y
  | _ => none
def ti1 (st : List zV) (k : Int → zO) : zO := match st with
  | .inl y :: _ => k y
  | _ => none
def tl1 (st : List zV) (k : Int → zO) : zO := match st with
  | .inr (.inr (.inl y)) :: _ => k y
  | _ => none
def ta1 (st : List zV) (k : Nat → zO) : zO := match st with
  | .inr (.inl a) :: _ => k a
  | _ => none
def ta2 (st : List zV) (k : Nat → Int → zO) : zO := match st with
  | .inl z :: .inr (.inl a) :: _ => k a z
  | _ => none
def ldi (L : List zV) (i : Nat) (k : Int → zO) : zO := match L[i]? with
  | some (.inl z) => k z
  | _ => none
def lda (L : List zV) (i : Nat) (k : Nat → zO) : zO := match L[i]? with
  | some (.inr (.inl a)) => k a
  | _ => none
def ldl (L : List zV) (i : Nat) (k : Int → zO) : zO := match L[i]?, L[i + 1]? with
  | some (.inr (.inr (.inl z))), some (.inr (.inr (.inr true))) => k z
  | _, _ => none
def od {α : Type} (x : Option α) (k : α → zO) : zO := match x with
  | some v => k v
  | none => none
def p1i (M : zMd) (ln pc : Nat) (L st : List zV) (h : zH) (i : Nat) (w : Nat) : zO := zg (ln == w) (ldi L i fun z => zgo (pc + w) L (vi z :: st) h)
def p1a (M : zMd) (ln pc : Nat) (L st : List zV) (h : zH) (i : Nat) (w : Nat) : zO := zg (ln == w) (lda L i fun z => zgo (pc + w) L (vr z :: st) h)
def p1l (M : zMd) (ln pc : Nat) (L st : List zV) (h : zH) (i : Nat) (w : Nat) : zO := zg (ln == w) (ldl L i fun z => zgo (pc + w) L (vl z :: st) h)
def s1i (M : zMd) (ln pc : Nat) (L st : List zV) (h : zH) (i : Nat) (w : Nat) : zO := zg (ln == w && decide (i < L.length)) (ti1 st fun z => zgo (pc + w) (L.set i (vi z)) st.tail h)
def s1a (M : zMd) (ln pc : Nat) (L st : List zV) (h : zH) (i : Nat) (w : Nat) : zO := zg (ln == w && decide (i < L.length)) (ta1 st fun z => zgo (pc + w) (L.set i (vr z)) st.tail h)
def s1l (M : zMd) (ln pc : Nat) (L st : List zV) (h : zH) (i : Nat) (w : Nat) : zO := zg (ln == w && decide (i + 1 < L.length)) (tl1 st fun z => zgo (pc + w) ((L.set i (vl z)).set (i + 1) vs) st.tail h)
def zhas (st : List zV) (n : Nat) : Bool := decide (n < st.length)
def stp (M : zMd) (I : ClassFile.Instr) (ln pc : Nat) (L st : List zV) (h : zH) : zO := match I with
  | .aconst_null => zg (ln == 1) (zgo (pc + 1) L (vr 0 :: st) h)
  | .iconst n => zg (ln == 1 && decide (i32 n = n)) (zgo (pc + 1) L (vi n :: st) h)
  | .bipush n => zg (ln == 2 && decide ((Int8.ofInt n).toInt32 = Int32.ofInt n) && decide (i32 n = n)) (zgo (pc + 2) L (vi n :: st) h)
  | .sipush n => zg (ln == 3 && decide ((Int16.ofInt n).toInt32 = Int32.ofInt n) && decide (i32 n = n)) (zgo (pc + 3) L (vi n :: st) h)
  | .lconst n => zg (ln == 1) (zgo (pc + 1) L (vl ((n : Nat) : Int) :: st) h)
  | .ldc i => zg (ln == 2) (match zfind zTC (mO M) i with
    | some v => zgo (pc + 2) L (vi v :: st) h
    | none => od (zfind zTR (mO M) i) fun k => zgo (pc + 2) L (vr (zsa k) :: st) h)
  | .ldc_w i => zg (ln == 3) (od (zfind zTC (mO M) i) fun v => zgo (pc + 3) L (vi v :: st) h)
  | .ldc2_w i => zg (ln == 3) (od (zfind zTL (mO M) i) fun v => zgo (pc + 3) L (vl v :: st) h)
  | .iload i => p1i M ln pc L st h i 2
  | .iload_n i => p1i M ln pc L st h i 1
  | .aload i => p1a M ln pc L st h i 2
  | .aload_n i => p1a M ln pc L st h i 1
  | .lload i => p1l M ln pc L st h i 2
  | .lload_n i => p1l M ln pc L st h i 1
  | .istore i => s1i M ln pc L st h i 2
  | .istore_n i => s1i M ln pc L st h i 1
  | .astore i => s1a M ln pc L st h i 2
  | .astore_n i => s1a M ln pc L st h i 1
  | .lstore i => s1l M ln pc L st h i 2
  | .lstore_n i => s1l M ln pc L st h i 1
  | .iinc i n => zg (ln == 3 && decide (i < L.length)) (ldi L i fun z => zgo (pc + 3) (L.set i (vi (i32 (z + n)))) st h)
  | .iadd => zg (ln == 1) (ar2 st fun x y => zgo (pc + 1) L (vi (i32 (x + y)) :: st.tail.tail) h)
  | .isub => zg (ln == 1) (ar2 st fun x y => zgo (pc + 1) L (vi (i32 (x - y)) :: st.tail.tail) h)
  | .imul => zg (ln == 1) (ar2 st fun x y => zgo (pc + 1) L (vi (i32 (x * y)) :: st.tail.tail) h)
  | .iand => zg (ln == 1) (ar2 st fun x y => zgo (pc + 1) L (vi (q2 (· &&& ·) x y) :: st.tail.tail) h)
  | .ior => zg (ln == 1) (ar2 st fun x y => zgo (pc + 1) L (vi (q2 (· ||| ·) x y) :: st.tail.tail) h)
  | .idiv => zg (ln == 1) (ar2 st fun x y => zg (decide (¬ y = 0)) (zgo (pc + 1) L (vi (q2 (· / ·) x y) :: st.tail.tail) h))
  | .irem => zg (ln == 1) (ar2 st fun x y => zg (decide (¬ y = 0)) (zgo (pc + 1) L (vi (q2 qrem x y) :: st.tail.tail) h))
  | .ishl => zg (ln == 1) (ar2 st fun x y => zgo (pc + 1) L (vi (q2 qshl x y) :: st.tail.tail) h)
  | .ishr => zg (ln == 1) (ar2 st fun x y => zgo (pc + 1) L (vi (q2 qshr x y) :: st.tail.tail) h)
  | .iushr => zg (ln == 1) (ar2 st fun x y => zgo (pc + 1) L (vi (q2 qushr x y) :: st.tail.tail) h)
  | .ladd => zg (ln == 1) (ll2 st fun x y => zgo (pc + 1) L (vl (i64 (x + y)) :: st.tail.tail) h)
  | .lsub => zg (ln == 1) (ll2 st fun x y => zgo (pc + 1) L (vl (i64 (x - y)) :: st.tail.tail) h)
  | .lmul => zg (ln == 1) (ll2 st fun x y => zgo (pc + 1) L (vl (i64 (x * y)) :: st.tail.tail) h)
  | .land => zg (ln == 1) (ll2 st fun x y => zgo (pc + 1) L (vl (q4 (· &&& ·) x y) :: st.tail.tail) h)
  | .lor => zg (ln == 1) (ll2 st fun x y => zgo (pc + 1) L (vl (q4 (· ||| ·) x y) :: st.tail.tail) h)
  | .ldiv => zg (ln == 1) (ll2 st fun x y => zg (decide (¬ y = 0)) (zgo (pc + 1) L (vl (q4 (· / ·) x y) :: st.tail.tail) h))
  | .lrem => zg (ln == 1) (ll2 st fun x y => zg (decide (¬ y = 0)) (zgo (pc + 1) L (vl (q4 qreml x y) :: st.tail.tail) h))
  | .lshl => zg (ln == 1) (li2 st fun x y => zgo (pc + 1) L (vl (q42 qlshl x y) :: st.tail.tail) h)
  | .lushr => zg (ln == 1) (li2 st fun x y => zgo (pc + 1) L (vl (q42 qlushr x y) :: st.tail.tail) h)
  | .lcmp => zg (ln == 1) (ll2 st fun x y => zgo (pc + 1) L (vi (lcm x y) :: st.tail.tail) h)
  | .i2l => zg (ln == 1) (ti1 st fun x => zgo (pc + 1) L (vl x :: st.tail) h)
  | .l2i => zg (ln == 1) (tl1 st fun x => zgo (pc + 1) L (vi (i32 x) :: st.tail) h)
  | .i2b => zg (ln == 1) (ti1 st fun x => zgo (pc + 1) L (vi (ib x) :: st.tail) h)
  | .dup => zg (ln == 1) (match st with
    | v :: r => zg (zcat v == 1) (zgo (pc + 1) L (v :: v :: r) h)
    | _ => none)
  | .pop => zg (ln == 1) (match st with
    | v :: r => zg (zcat v == 1) (zgo (pc + 1) L r h)
    | _ => none)
  | .dup2 => zg (ln == 1) (match st with
    | v :: w :: r => zg (zcat v == 1 && zcat w == 1) (zgo (pc + 1) L (v :: w :: v :: w :: r) h)
    | _ => none)
  | .ifCond c off => zg (ln == 3 && decide (0 ≤ (pc : Int) + off)) (ti1 st fun x => if zcmp c x 0 then zgo ((pc : Int) + off).toNat L st.tail h else zgo (pc + 3) L st.tail h)
  | .if_icmp c off => zg (ln == 3 && decide (0 ≤ (pc : Int) + off)) (ar2 st fun x y => if zcmp c x y then zgo ((pc : Int) + off).toNat L st.tail.tail h else zgo (pc + 3) L st.tail.tail h)
  | .ifnonnull off => zg (ln == 3 && decide (0 ≤ (pc : Int) + off)) (ta1 st fun a => if a = 0 then zgo (pc + 3) L st.tail h else zgo ((pc : Int) + off).toNat L st.tail h)
  | .goto off => zg (ln == 3) (zj pc off L st h)
  | .tableswitch d lo hi offs => ti1 st fun x => if x < lo ∨ hi < x then zj pc d L st.tail h else od (offs[(x - lo).toNat]?) fun off => zj pc off L st.tail h
  | .lookupswitch d ps => zg ((ps.toList.zip (ps.toList.drop 1)).all (fun (a, next) => a.1 < next.1)) (ti1 st fun x => zj pc (Op.lookupswitch.offset ps.toList d x) L st.tail h)
  | .getfield i => zg (ln == 3) (ta1 st fun a => od (zfind zTF (mO M) i) fun e => od (zfo (h.2 a) e.1 e.2.1) fun v => zg (ztp e.2.2.1 v) (zgo (pc + 3) L (v :: st.tail) h))
  | .putfield i => zg (ln == 3) (match st with
    | v :: .inr (.inl a) :: r => od (zfind zTF (mO M) i) fun e => zg (zfit e.2.2.1 v && (e.2.2.2 == 0 || e.2.2.2 == 2 || (e.2.2.2 == 1 && mI M == 1))) (od (zpf (h.2 a) e.1 e.2.1 v) fun c => zgo (pc + 3) L r (zup h a c))
    | _ => none)
  | .iaload => zg (ln == 1) (ta2 st fun a z => od (zel (h.2 a) (if mO M = 12 then 99 else 1) z) fun v => zgo (pc + 1) L (vi v :: st.tail.tail) h)
  | .baload => zg (ln == 1) (ta2 st fun a z => od ((zel (h.2 a) 0 z).or (zel (h.2 a) 3 z)) fun v => zgo (pc + 1) L (vi v :: st.tail.tail) h)
  | .laload => zg (ln == 1) (ta2 st fun a z => od (zel (h.2 a) 2 z) fun v => zgo (pc + 1) L (vl v :: st.tail.tail) h)
  | .aaload => zg (ln == 1) (ta2 st fun a z => od ((zel (h.2 a) 4 z).or ((zel (h.2 a) 5 z).or (zel (h.2 a) 6 z))) fun v => zgo (pc + 1) L (vr v.toNat :: st.tail.tail) h)
  | .arraylength => zg (ln == 1) (ta1 st fun a => od (zle (h.2 a)) fun n => zgo (pc + 1) L (vi n :: st.tail) h)
  | .iastore => zg (ln == 1) (match st with
    | .inl v :: .inl z :: .inr (.inl a) :: r => od (zst (h.2 a) 1 z v) fun c => zgo (pc + 1) L r (zup h a c)
    | _ => none)
  | .bastore => zg (ln == 1) (match st with
    | .inl v :: .inl z :: .inr (.inl a) :: r => od ((zst (h.2 a) 0 z (i8 v)).or (zst (h.2 a) 3 z (i1 v))) fun c => zgo (pc + 1) L r (zup h a c)
    | _ => none)
  | .lastore => zg (ln == 1) (match st with
    | .inr (.inr (.inl v)) :: .inl z :: .inr (.inl a) :: r => od (zst (h.2 a) 2 z v) fun c => zgo (pc + 1) L r (zup h a c)
    | _ => none)
  | .aastore => zg (ln == 1) (match st with
    | .inr (.inl v) :: .inl z :: .inr (.inl a) :: r => od (if zis (h.2 v) 2 then zst (h.2 a) 4 z (v : Int) else if zis (h.2 v) 4 then zst (h.2 a) 5 z (v : Int) else if zis (h.2 v) 8 then zst (h.2 a) 6 z (v : Int) else none) fun c => zgo (pc + 1) L r (zup h a c)
    | _ => none)
  | .newarray t => zg (ln == 2) (ti1 st fun n => zg (decide (0 ≤ n) && decide (n ≤ 100000) && decide (h.1.1 < 999999999)) (od (zak t) fun k => zgo (pc + 2) L (vr (h.1.1 + 1) :: st.tail) (zpu h n.toNat (.inr (k, n.toNat, fun _ => 0)))))
  | .anewarray i => zg (ln == 3) (ti1 st fun n => zg (decide (0 ≤ n) && decide (n ≤ 100000) && decide (h.1.1 < 999999999)) (od (zfind zTA (mO M) i) fun k => zgo (pc + 3) L (vr (h.1.1 + 1) :: st.tail) (zpu h n.toNat (.inr (k, n.toNat, fun _ => 0)))))
  | .new i => zg (ln == 3 && decide (h.1.1 < 999999999)) (od (zfind zTN (mO M) i) fun ci => zgo (pc + 3) L (vr (h.1.1 + 1) :: st) (zpu h (zDf ci).length (.inl (ci, zDf ci))))
  | .invokevirtual i => zg (ln == 3) (match zfind zTV (mO M) i with
    | some (ci, Y) => zg (zhas st (mP Y)) (ta1 (st.drop (mP Y)) fun a => zg (zis (h.2 a) ci) (zca M Y (vr a :: (st.take (mP Y)).reverse) (pc + 3) L (st.drop (mP Y + 1))))
    | none => match zfind zTl (mO M) i with
      | some _ => ta1 st fun a => od (zsl a) fun n => zg (decide (2 ≤ mF M) && decide (8 + (1 + 11) + 20 ≤ mW M) && zrm8 st.tail) (zgo (pc + 3) L (vi n :: st.tail) h)
      | none => od (zfind zTc (mO M) i) fun _ => ta2 st fun a z => od (zsc a z) fun n => zg (decide (5 ≤ mF M) && decide (8 + (2 + 11) + 85 ≤ mW M) && zrm8 st.tail.tail) (zgo (pc + 3) L (vi n :: st.tail.tail) h))
  | .invokestatic i => zg (ln == 3) (match zfind zTS (mO M) i with
    | some (_, Y) => zg (decide (mP Y ≤ st.length)) (zca M Y (st.take (mP Y)).reverse (pc + 3) L (st.drop (mP Y)))
    | none => match zfind zTM (mO M) i with
     | some b => ar2 st fun x y => zg (decide (1 ≤ mF M) && decide (21 ≤ mW M) && zrm8 st.tail.tail) (zgo (pc + 3) L (vi (if b then (if x < y then y else x) else (if y < x then y else x)) :: st.tail.tail) h)
     | none => od (zfind zTX (mO M) i) fun _ => match st with
      | .inl n :: .inl dp :: .inr (.inl b) :: .inl sp :: .inr (.inl a) :: r => od (zcopy (h.2 a) (h.2 b) sp dp n) fun c => zg (decide (1 ≤ mF M) && decide (60 ≤ mW M) && zrm8 r) (zgo (pc + 3) L r (zup h b c))
      | _ => none)
  | .invokespecial i => zg (ln == 3) (match zfind zTI (mO M) i with
    | some (_, Y) => zg (zhas st (mP Y)) (ta1 (st.drop (mP Y)) fun a => zg (decide (¬ a = 0)) (zca M Y (vr a :: (st.take (mP Y)).reverse) (pc + 3) L (st.drop (mP Y + 1))))
    | none => od (zfind zTO (mO M) i) fun _ => ta1 st fun a => zg (decide (¬ a = 0) && decide (1 ≤ mF M) && decide (20 ≤ mW M) && zrm8 st.tail) (zgo (pc + 3) L st.tail h))
  | .ireturn => zg (ln == 1) (match st with
    | [.inl z] => match mR M with
      | some .int => some (.inr (.inl (vi z, h)))
      | some .boolean => if z = 0 ∨ z = 1 then some (.inr (.inl (vi z, h))) else none
      | _ => none
    | _ => none)
  | .lreturn => zg (ln == 1) (match mR M, st with
    | some .long, [.inr (.inr (.inl z))] => some (.inr (.inl (vl z, h)))
    | _, _ => none)
  | .areturn => zg (ln == 1) (match mR M, st with
    | some (.object _), [.inr (.inl a)] => some (.inr (.inl (vr a, h)))
    | _, _ => none)
  | .return_ => zg (ln == 1) (match mR M, st with
    | none, [] => some (.inr (.inl (vn, h)))
    | _, _ => none)
  | _ => none
/-- a method's first locals -/
def zent (as : List zV) (n : Nat) : List zV := zsp as ++ List.replicate (n - (zsp as).length) vn
def zpv (v : zV) (st : List zV) : List zV := match v with
  | .inr (.inr (.inr _)) => st
  | v => v :: st
def rnF : Nat → zMd → Nat → List zV → List zV → zH → Option (zV × zH)
  | 0, _, _, _, _, _ => none
  | n + 1, M, pc, L, st, h => match ClassFile.decode (mC M) pc with
    | .error _ => none
    | .ok (I, ln) => match stp M I ln pc L st h with
      | none => none
      | some (.inl (pc', L', st', h')) => rnF n M pc' L' st' h'
      | some (.inr (.inl r)) => some r
      | some (.inr (.inr (Y, as, pc', L', st'))) => match rnF n Y 0 (zent as (mL Y)) [] h with
        | none => none
        | some (v, h') => rnF n M pc' L' (zpv v st') h'
theorem rnF_succ : ∀ {n : Nat} {M : zMd} {pc : Nat} {L st : List zV} {h : zH} {r : zV × zH}, rnF n M pc L st h = some r → rnF (n + 1) M pc L st h = some r := by
  intro n
  induction n with
  | zero => intro M pc L st h r e; simp [rnF] at e
  | succ n ih =>
    intro M pc L st h r e
    rw [rnF] at e ⊢
    cases hd : ClassFile.decode (mC M) pc with
    | error x => rw [hd] at e; cases e
    | ok x =>
      obtain ⟨I, ln⟩ := x
      rw [hd] at e
      simp only at e ⊢
      cases hs : stp M I ln pc L st h with
      | none => rw [hs] at e; cases e
      | some y =>
        rw [hs] at e
        match y, e with
        | .inl (pc', L', st', h'), e => exact ih e
        | .inr (.inl r'), e => exact e
        | .inr (.inr (Y, as, pc', L', st')), e =>
          simp only at e ⊢
          cases hc : rnF n Y 0 (zent as (mL Y)) [] h with
          | none => rw [hc] at e; cases e
          | some w =>
            obtain ⟨v, h'⟩ := w
            rw [hc] at e
            rw [ih hc]
            exact ih e
theorem rnF_mono {n m : Nat} {M : zMd} {pc : Nat} {L st : List zV} {h : zH} {r : zV × zH} (hnm : n ≤ m) (e : rnF n M pc L st h = some r) : rnF m M pc L st h = some r := by
  induction hnm with
  | refl => exact e
  | step _ ih => exact rnF_succ ih
noncomputable def rn (M : zMd) (pc : Nat) (L st : List zV) (h : zH) : Option (zV × zH) :=
  @dite _ (∃ (n : Nat) (r : zV × zH), rnF n M pc L st h = some r) (Classical.propDecidable _) (fun e => some (Classical.choose (Classical.choose_spec e))) (fun _ => none)
theorem rn_iff {M : zMd} {pc : Nat} {L st : List zV} {h : zH} {r : zV × zH} : rn M pc L st h = some r ↔ ∃ n, rnF n M pc L st h = some r := by
  unfold rn
  constructor
  · intro e
    split at e
    · rename_i q
      cases e
      exact ⟨_, Classical.choose_spec (Classical.choose_spec q)⟩
    · cases e
  · intro ⟨n, e⟩
    have q : ∃ (n : Nat) (r : zV × zH), rnF n M pc L st h = some r := ⟨n, r, e⟩
    rw [dif_pos q]
    have h1 := Classical.choose_spec (Classical.choose_spec q)
    have h2 := rnF_mono (Nat.le_max_left n (Classical.choose q)) e
    have h3 := rnF_mono (Nat.le_max_right n (Classical.choose q)) h1
    rw [h2] at h3
    exact h3.symm
theorem opt_ext {α : Type} {x y : Option α} (h : ∀ r, x = some r ↔ y = some r) : x = y := by
  cases x with
  | none =>
    cases y with
    | none => rfl
    | some b => exact absurd ((h b).mpr rfl) (by simp)
  | some a => exact ((h a).mp rfl).symm
noncomputable def cl (Y : zMd) (as : List zV) (h : zH) : Option (zV × zH) := rn Y 0 (zent as (mL Y)) [] h
def bnd {α : Type} (x : Option (zV × zH)) (k : zV → zH → Option α) : Option α := match x with
  | none => none
  | some (v, h) => k v h
theorem bnd_some {α : Type} {v : zV} {h : zH} {k : zV → zH → Option α} : bnd (some (v, h)) k = k v h := rfl
theorem rn_go {M : zMd} {pc ln : Nat} {I : ClassFile.Instr} {L st : List zV} {h : zH} {pc' : Nat} {L' st' : List zV} {h' : zH} (d : ClassFile.decode (mC M) pc = .ok (I, ln)) (e : stp M I ln pc L st h = some (.inl (pc', L', st', h'))) : rn M pc L st h = rn M pc' L' st' h' := by
  apply opt_ext
  intro r
  rw [rn_iff, rn_iff]
  constructor
  · rintro ⟨n, q⟩
    cases n with
    | zero => simp [rnF] at q
    | succ n => rw [rnF, d] at q; simp only [e] at q; exact ⟨n, q⟩
  · rintro ⟨n, q⟩
    exact ⟨n + 1, by rw [rnF, d]; simp only [e]; exact q⟩
theorem rn_no {M : zMd} {pc ln : Nat} {I : ClassFile.Instr} {L st : List zV} {h : zH} (d : ClassFile.decode (mC M) pc = .ok (I, ln)) (e : stp M I ln pc L st h = none) : rn M pc L st h = none := by
  cases q : rn M pc L st h with
  | none => rfl
  | some r =>
    obtain ⟨n, q⟩ := rn_iff.mp q
    cases n with
    | zero => simp [rnF] at q
    | succ n => rw [rnF, d] at q; simp only [e] at q; cases q
theorem rn_rt {M : zMd} {pc ln : Nat} {I : ClassFile.Instr} {L st : List zV} {h : zH} {r : zV × zH} (d : ClassFile.decode (mC M) pc = .ok (I, ln)) (e : stp M I ln pc L st h = some (.inr (.inl r))) : rn M pc L st h = some r :=
  rn_iff.mpr ⟨1, by rw [rnF, d]; simp only [e]⟩
theorem rn_cl {M Y : zMd} {pc ln : Nat} {I : ClassFile.Instr} {L st as : List zV} {h : zH} {pc' : Nat} {L' st' : List zV} (d : ClassFile.decode (mC M) pc = .ok (I, ln)) (e : stp M I ln pc L st h = some (.inr (.inr (Y, as, pc', L', st')))) : rn M pc L st h = bnd (cl Y as h) (fun v h' => rn M pc' L' (zpv v st') h') := by
  apply opt_ext
  intro r
  rw [rn_iff]
  constructor
  · rintro ⟨n, q⟩
    cases n with
    | zero => simp [rnF] at q
    | succ n =>
      rw [rnF, d] at q
      simp only [e] at q
      cases hc : rnF n Y 0 (zent as (mL Y)) [] h with
      | none => rw [hc] at q; cases q
      | some w =>
        obtain ⟨v, h'⟩ := w
        rw [hc] at q
        rw [show cl Y as h = some (v, h') from rn_iff.mpr ⟨n, hc⟩, bnd_some]
        exact rn_iff.mpr ⟨n, q⟩
  · intro q
    cases hc : cl Y as h with
    | none => rw [hc] at q; cases q
    | some w =>
      obtain ⟨v, h'⟩ := w
      rw [hc, bnd_some] at q
      obtain ⟨n, q⟩ := rn_iff.mp q
      obtain ⟨n', q'⟩ := rn_iff.mp hc
      refine ⟨max n n' + 1, ?_⟩
      rw [rnF, d]
      simp only [e]
      rw [rnF_mono (Nat.le_max_right n n') q']
      exact rnF_mono (Nat.le_max_left n n') q
