/-! THE ABSTRACT MACHINE, 1: values (an int, a reference where 0 is null, a long, nothing, a long's second word), cells, heap (cells made, slots made; cells by address from 1) -/
abbrev zV : Type := Int ⊕ Nat ⊕ Int ⊕ Bool
abbrev vi (z : Int) : zV := .inl z
abbrev vr (a : Nat) : zV := .inr (.inl a)
abbrev vl (z : Int) : zV := .inr (.inr (.inl z))
abbrev vn : zV := .inr (.inr (.inr false))
abbrev vs : zV := .inr (.inr (.inr true))
abbrev zC : Type := (Nat × List zV) ⊕ (Nat × Nat × (Nat → Int))
abbrev zH : Type := (Nat × Nat) × (Nat → zC)
abbrev zob (c : Nat) (fs : List zV) : zC := .inl (c, fs)
abbrev zar (k n : Nat) (f : Nat → Int) : zC := .inr (k, n, f)
/-- a method: name, code, what it returns; locals, frames and words it needs below it, its class by number, its parameters, 1 for a constructor -/
abbrev zMd : Type := MethodName × ByteArray × Option FieldType × Nat × Nat × Nat × Nat × Nat × Nat
abbrev mN (M : zMd) : MethodName := M.1
abbrev mC (M : zMd) : ByteArray := M.2.1
abbrev mR (M : zMd) : Option FieldType := M.2.2.1
abbrev mL (M : zMd) : Nat := M.2.2.2.1
abbrev mF (M : zMd) : Nat := M.2.2.2.2.1
abbrev mW (M : zMd) : Nat := M.2.2.2.2.2.1
abbrev mO (M : zMd) : Nat := M.2.2.2.2.2.2.1
abbrev mP (M : zMd) : Nat := M.2.2.2.2.2.2.2.1
abbrev mI (M : zMd) : Nat := M.2.2.2.2.2.2.2.2
/-- the classes by number -/
def zNm (o : Nat) : String := match o with
  | 0 => RX0
  | 1 => RX1
  | 2 => RX2
  | 3 => RX3
  | 4 => RX4
  | 5 => RX5
  | 6 => RX6
  | 7 => RX7
  | 8 => RX8
  | 9 => RX9
  | 10 => RX10
  | 11 => RX11
  | 12 => "EdgeWalkLaw"
  | 13 => "java/lang/Integer"
  | 14 => "java/lang/Long"
  | _ => "java/lang/Math"
def i32 (z : Int) : Int := (Int32.ofInt z).toInt
def i64 (z : Int) : Int := (Int64.ofInt z).toInt
def zup (h : zH) (a : Nat) (c : zC) : zH := (h.1, fun j => if j = a then c else h.2 j)
def zpu (h : zH) (s : Nat) (c : zC) : zH := ((h.1.1 + 1, h.1.2 + s), fun j => if j = h.1.1 + 1 then c else h.2 j)
def fup (f : Nat → Int) (k : Nat) (v : Int) : Nat → Int := fun j => if j = k then v else f j
def zW : List Cond := lw_tbl.filter goodWord
theorem zW_t {w : Cond} (h : w ∈ tables_1) (g : goodWord w = true) : w ∈ zW := List.mem_filter.mpr ⟨List.mem_append_right _ h, g⟩
theorem zW_1 {w : Cond} {i : Nat} (h : tables_1_1[i]? = some w) (g : goodWord w = true) : w ∈ zW := zW_t (List.mem_append_left _ (List.mem_of_getElem? h)) g
theorem zW_2 {w : Cond} {i : Nat} (h : tables_1_2[i]? = some w) (g : goodWord w = true) : w ∈ zW := zW_t (List.mem_append_right _ (List.mem_append_left _ (List.mem_of_getElem? h))) g
theorem zW_3 {w : Cond} {i : Nat} (h : tables_1_3[i]? = some w) (g : goodWord w = true) : w ∈ zW := zW_t (List.mem_append_right _ (List.mem_append_right _ (List.mem_append_left _ (List.mem_of_getElem? h)))) g
theorem zW_4 {w : Cond} {i : Nat} (h : tables_1_4[i]? = some w) (g : goodWord w = true) : w ∈ zW := zW_t (List.mem_append_right _ (List.mem_append_right _ (List.mem_append_right _ (List.mem_append_left _ (List.mem_of_getElem? h))))) g
theorem zW_5 {w : Cond} {i : Nat} (h : tables_1_5[i]? = some w) (g : goodWord w = true) : w ∈ zW := zW_t (List.mem_append_right _ (List.mem_append_right _ (List.mem_append_right _ (List.mem_append_right _ (List.mem_append_left _ (List.mem_of_getElem? h)))))) g
theorem zW_6 {w : Cond} {i : Nat} (h : tables_1_6[i]? = some w) (g : goodWord w = true) : w ∈ zW := zW_t (List.mem_append_right _ (List.mem_append_right _ (List.mem_append_right _ (List.mem_append_right _ (List.mem_append_right _ (List.mem_append_left _ (List.mem_of_getElem? h))))))) g
theorem zW_7 {w : Cond} {i : Nat} (h : tables_1_7[i]? = some w) (g : goodWord w = true) : w ∈ zW := zW_t (List.mem_append_right _ (List.mem_append_right _ (List.mem_append_right _ (List.mem_append_right _ (List.mem_append_right _ (List.mem_append_right _ (List.mem_of_getElem? h))))))) g
theorem zW_s {w : Cond} (h : w ∈ k2_sels lw_privs) (g : goodWord w = true) : w ∈ zW := List.mem_filter.mpr ⟨List.mem_append_left _ h, g⟩
/-- what is known of a method by the tables -/
def zMok (M : zMd) : Prop := plainName (mN M).cls = true ∧ (mN M).cls = zNm (mO M) ∧ (mI M = 1 → (mN M).name = "<init>") ∧ Cond.code (mN M) (mC M) (mL M) (mR M) ∈ zW ∧ Cond.initialized (mN M).cls ∈ zW ∧ ((mN M).cls ≠ "java/lang/invoke/MethodHandle" ∧ (mN M).cls ≠ "java/lang/invoke/VarHandle" ∧ (parseMethodDescriptor (mN M).desc).map (fun d => d.parameters.length) = some (mP M))
def zTy (t : Int) : FieldType → Prop := fun ty => (t = 0 ∧ ty = .int) ∨ (t = 1 ∧ ty = .boolean) ∨ (t = 2 ∧ ty = .long) ∨ (t = 3 ∧ ((∃ C, ty = .object C) ∨ ∃ e, ty = .array e))
