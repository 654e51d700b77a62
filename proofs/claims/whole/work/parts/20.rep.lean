/-! what the abstract heap stands for -/
abbrev zG : Type := va_G × (Nat → ClassId) × Nat × (Nat → Nat) × (Nat → Nat) × Nat × (Nat → Int32)
abbrev gD (g : zG) : va_G := g.1
abbrev gA (g : zG) : Nat → ClassId := g.2.1
abbrev gb (g : zG) : Nat := g.2.2.1
abbrev gx (g : zG) : Nat → Nat := g.2.2.2.1
abbrev gV (g : zG) : Nat → Nat := g.2.2.2.2.1
abbrev gL (g : zG) : Nat := g.2.2.2.2.2.1
abbrev gX (g : zG) : Nat → Int32 := g.2.2.2.2.2.2
theorem i32_i (x : Int32) : i32 x.toInt = x.toInt := by simp [i32]
theorem i64_i (x : Int64) : i64 x.toInt = x.toInt := by simp [i64]
theorem o32 (x : Int32) : Int32.ofInt x.toInt = x := by simp
theorem o64 (x : Int64) : Int64.ofInt x.toInt = x := by simp
theorem i32_32 (z : Int) : i32 (i32 z) = i32 z := i32_i _
theorem i64_64 (z : Int) : i64 (i64 z) = i64 z := i64_i _
theorem o_i32 (z : Int) : Int32.ofInt (i32 z) = Int32.ofInt z := o32 _
theorem o_i64 (z : Int) : Int64.ofInt (i64 z) = Int64.ofInt z := o64 _
theorem i32_of {z : Int} (h1 : -2147483648 ≤ z) (h2 : z ≤ 2147483647) : i32 z = z := by
  unfold i32
  rw [Int32.toInt_ofInt]
  exact Int.bmod_eq_of_le (by simpa using h1) (by simp; omega)
theorem i32_r (z : Int) : -2147483648 ≤ i32 z ∧ i32 z ≤ 2147483647 := by
  have h1 := Int32.le_toInt (Int32.ofInt z)
  have h2 := Int32.toInt_lt (Int32.ofInt z)
  unfold i32
  omega
theorem i32_rng {z : Int} (h : i32 z = z) : -2147483648 ≤ z ∧ z ≤ 2147483647 := by rw [← h]; exact i32_r z
theorem i64_of {z : Int} (h1 : -9223372036854775808 ≤ z) (h2 : z ≤ 9223372036854775807) : i64 z = z := by
  unfold i64
  rw [Int64.toInt_ofInt]
  exact Int.bmod_eq_of_le (by simpa using h1) (by simp; omega)
theorem i64_r (z : Int) : -9223372036854775808 ≤ i64 z ∧ i64 z ≤ 9223372036854775807 := by
  have h1 := Int64.le_toInt (Int64.ofInt z)
  have h2 := Int64.toInt_lt (Int64.ofInt z)
  unfold i64
  omega
theorem i64_rng {z : Int} (h : i64 z = z) : -9223372036854775808 ≤ z ∧ z ≤ 9223372036854775807 := by rw [← h]; exact i64_r z
theorem o_lt {x y : Int} (hx : i32 x = x) (hy : i32 y = y) : Int32.ofInt x < Int32.ofInt y ↔ x < y := by
  rw [Int32.lt_iff_toInt_lt]
  show i32 x < i32 y ↔ x < y
  rw [hx, hy]
theorem o_le {x y : Int} (hx : i32 x = x) (hy : i32 y = y) : Int32.ofInt x ≤ Int32.ofInt y ↔ x ≤ y := by
  rw [Int32.le_iff_toInt_le]
  show i32 x ≤ i32 y ↔ x ≤ y
  rw [hx, hy]
theorem o_eq {x y : Int} (hx : i32 x = x) (hy : i32 y = y) : Int32.ofInt x = Int32.ofInt y ↔ x = y := by
  rw [← Int32.toInt_inj]
  show i32 x = i32 y ↔ x = y
  rw [hx, hy]
theorem o_lt64 {x y : Int} (hx : i64 x = x) (hy : i64 y = y) : Int64.ofInt x < Int64.ofInt y ↔ x < y := by
  rw [Int64.lt_iff_toInt_lt]
  show i64 x < i64 y ↔ x < y
  rw [hx, hy]
theorem o_eq64 {x y : Int} (hx : i64 x = x) (hy : i64 y = y) : Int64.ofInt x = Int64.ofInt y ↔ x = y := by
  rw [← Int64.toInt_inj]
  show i64 x = i64 y ↔ x = y
  rw [hx, hy]
theorem i32_0 : i32 0 = 0 := i32_of (by omega) (by omega)
theorem i64_0 : i64 0 = 0 := i64_of (by omega) (by omega)
theorem o_0 : Int32.ofInt 0 = 0 := rfl
theorem o_clamp {z : Int} (hz : i32 z = z) (h0 : 0 ≤ z) : (Int32.ofInt z).toNatClampNeg = z.toNat := by
  show (Int32.ofInt z).toInt.toNat = z.toNat
  show (i32 z).toNat = z.toNat
  rw [hz]
theorem o_in {z : Int} {n : Nat} (hz : i32 z = z) (h0 : 0 ≤ z) (hn : z < (n : Int)) : vp_in (Int32.ofInt z) n := by
  unfold vp_in
  rw [o_clamp hz h0, ← o_0, o_lt hz i32_0]
  omega
def zf (g : zG) (a : Nat) : Nat := if a < 1000000000 then gb g + (a - 1) else gx g (a - 1000000000)
def zv (g : zG) (v : zV) : Value := match v with
  | .inl z => .int (Int32.ofInt z)
  | .inr (.inl a) => if a = 0 then .null else .ref (zf g a)
  | .inr (.inr (.inl z)) => .long (Int64.ofInt z)
  | .inr (.inr (.inr _)) => .int 0
theorem zv_i (g : zG) (z : Int) : zv g (vi z) = .int (Int32.ofInt z) := rfl
theorem zv_l (g : zG) (z : Int) : zv g (vl z) = .long (Int64.ofInt z) := rfl
theorem zv_r (g : zG) {a : Nat} (h : a ≠ 0) : zv g (vr a) = .ref (zf g a) := if_neg h
theorem zv_0 (g : zG) : zv g (vr 0) = .null := rfl
theorem zv_cat (g : zG) (v : zV) : (zv g v).category = zcat v := by
  match v with
  | .inl z => rfl
  | .inr (.inl a) =>
    by_cases h : a = 0
    · subst h; rfl
    · rw [zv_r g h]; rfl
  | .inr (.inr (.inl z)) => rfl
  | .inr (.inr (.inr b)) => rfl
/-- a value that may stand on the stack or in a field -/
def zvo (v : zV) : Prop := match v with
  | .inl z => i32 z = z
  | .inr (.inl _) => True
  | .inr (.inr (.inl z)) => i64 z = z
  | .inr (.inr (.inr _)) => False
def zc (g : zG) (c : zC) : va_E := match c with
  | .inl (ci, fs) => .inr (ci, fs.map (zv g))
  | .inr (k, n, f) => .inl (gA g k, n, if k = 2 then .inr (.inl (fun j => Int64.ofInt (f j))) else if 4 ≤ k then .inr (.inr (.inr (.inr (fun j => if (f j).toNat = 0 then none else some (zf g (f j).toNat))))) else .inl (fun j => Int32.ofInt (f j)))
def zjk : zC := .inl (999, [])
def zco (c : zC) : Prop := match c with
  | .inl (ci, fs) => (∀ v ∈ fs, zvo v) ∧ ∃ q : vw_C, vwCl[ci]? = some q ∧ fs.length = q.2.2
  | .inr (k, n, f) => k ≤ 6 ∧ n < 2147483648 ∧ (k = 2 → ∀ j, i64 (f j) = f j) ∧ (k ≠ 2 → ∀ j, i32 (f j) = f j)
def zws (g : zG) (h : zH) : va_W := (List.range h.1.1).map (fun a => (gb g + a, zc g (h.2 (a + 1))))
def zRep (g : zG) (h : zH) (H : Heap) : Prop := H.size = gb g + h.1.1 ∧ h.1.1 < 1000000000 ∧ (∀ a, (a = 0 ∨ h.1.1 < a) → a ≠ 1000000000 → h.2 a = zjk) ∧ h.2 1000000000 = .inr (99, gL g, fun j => (gX g j).toInt) ∧ (∀ a, a < h.1.1 → zco (h.2 (a + 1))) ∧ va_P (gD g) vwCl (zws g h) H
theorem zws_get {g : zG} {h : zH} {a : Nat} (hl : a < h.1.1) : (zws g h)[a]? = some (gb g + a, zc g (h.2 (a + 1))) := by
  simp [zws, List.getElem?_map, List.getElem?_range hl]
theorem zws_inv {g : zG} {h : zH} {k : Nat} {q : Nat × va_E} (e : (zws g h)[k]? = some q) : k < h.1.1 ∧ q.1 = gb g + k := by
  have hl : k < (zws g h).length := (List.getElem?_eq_some_iff.mp e).1
  have hk : k < h.1.1 := by simpa [zws] using hl
  refine ⟨hk, ?_⟩
  rw [zws_get hk] at e
  cases e
  rfl
abbrev zA (g : zG) : Nat → Prop := fun q => gb g ≤ q
theorem zws_D {g : zG} {h : zH} : va_D (zA g) (zws g h) := by
  refine ⟨fun i j p q hi hj e => ?_, fun k q hk => ?_⟩
  · have h1 := (zws_inv hi).2
    have h2 := (zws_inv hj).2
    omega
  · have h1 := (zws_inv hk).2
    show gb g ≤ q.1
    omega
theorem zws_up {g : zG} {h : zH} {a : Nat} {c : zC} (hl : a < h.1.1) : (zws g h).set a (gb g + a, zc g c) = zws g (zup h (a + 1) c) := by
  apply List.ext_getElem?
  intro i
  by_cases hi : i = a
  · subst hi
    rw [List.getElem?_set_self (by simpa [zws] using hl), zws_get (h := zup h (i + 1) c) hl]
    simp [zup]
  · rw [List.getElem?_set_ne (Ne.symm hi)]
    by_cases hk : i < h.1.1
    · rw [zws_get hk, zws_get (h := zup h (a + 1) c) hk]
      simp [zup, hi]
    · rw [List.getElem?_eq_none (by simpa [zws] using hk), List.getElem?_eq_none (by simpa [zws, zup] using hk)]
theorem zws_push {g : zG} {h : zH} {s : Nat} {c : zC} : zws g h ++ [(gb g + h.1.1, zc g c)] = zws g (zpu h s c) := by
  simp only [zws, zpu, List.range_succ, List.map_append, List.map_cons, List.map_nil]
  congr 1
  · apply List.map_congr_left
    intro a ha
    have : a ≠ h.1.1 := by have := List.mem_range.mp ha; omega
    simp [this]
theorem zRep.at {g : zG} {h : zH} {H : Heap} {a : Nat} (hR : zRep g h H) (hj : h.2 a ≠ zjk) (hx : ∀ n f, h.2 a ≠ .inr (99, n, f)) : ∃ i, a = i + 1 ∧ i < h.1.1 ∧ a ≠ 0 ∧ zf g a = gb g + i ∧ (zws g h)[i]? = some (zf g a, zc g (h.2 a)) ∧ zco (h.2 a) := by
  obtain ⟨h1, h2, h3, h4, h5, -⟩ := hR
  have hb : a ≠ 1000000000 := fun e => hx _ _ (e ▸ h4)
  have h0 : ¬ (a = 0 ∨ h.1.1 < a) := fun q => hj (h3 a q hb)
  cases a with
  | zero => exact absurd (Or.inl rfl) h0
  | succ i =>
    have hi : i < h.1.1 := by omega
    have hz : zf g (i + 1) = gb g + i := by
      unfold zf
      rw [if_pos (by omega)]
      omega
    exact ⟨i, rfl, hi, by omega, hz, by rw [hz]; exact zws_get hi, h5 i hi⟩
theorem zRep.ob {g : zG} {h : zH} {H : Heap} {a ci : Nat} {fs : List zV} (hR : zRep g h H) (e : h.2 a = .inl (ci, fs)) (hc : ci ≠ 999) : ∃ i, a = i + 1 ∧ i < h.1.1 ∧ a ≠ 0 ∧ zf g a = gb g + i ∧ (zws g h)[i]? = some (zf g a, zc g (.inl (ci, fs))) ∧ zco (.inl (ci, fs)) := by
  have := hR.at (a := a) (by rw [e]; intro q; cases q; exact hc rfl) (by rw [e]; intro n f q; cases q)
  rwa [e] at this
theorem zRep.ar {g : zG} {h : zH} {H : Heap} {a k n : Nat} {f : Nat → Int} (hR : zRep g h H) (e : h.2 a = .inr (k, n, f)) (hc : k ≠ 99) : ∃ i, a = i + 1 ∧ i < h.1.1 ∧ a ≠ 0 ∧ zf g a = gb g + i ∧ (zws g h)[i]? = some (zf g a, zc g (.inr (k, n, f))) ∧ zco (.inr (k, n, f)) := by
  have := hR.at (a := a) (by rw [e]; intro q; cases q) (by rw [e]; intro n f q; cases q; exact hc rfl)
  rwa [e] at this
theorem zRep.up {g : zG} {h : zH} {H H1 : Heap} {i : Nat} {c : zC} (hR : zRep g h H) (hi : i < h.1.1) (hs : H1.size = H.size) (hc : zco c) (hP : va_P (gD g) vwCl ((zws g h).set i (gb g + i, zc g c)) H1) : zRep g (zup h (i + 1) c) H1 := by
  obtain ⟨h1, h2, h3, h4, h5, -⟩ := hR
  refine ⟨hs.trans h1, h2, fun b hb hn => ?_, ?_, fun b hb => ?_, by rw [← zws_up hi]; exact hP⟩
  · show (if b = i + 1 then c else h.2 b) = zjk
    rw [if_neg (by rcases hb with hb | hb <;> (try simp only [zup] at hb) <;> omega)]
    exact h3 b hb hn
  · show (if 1000000000 = i + 1 then c else h.2 1000000000) = _
    rw [if_neg (by omega)]
    exact h4
  · show zco (if b + 1 = i + 1 then c else h.2 (b + 1))
    split
    · exact hc
    · exact h5 b hb
theorem zRep.push {g : zG} {h : zH} {H H1 : Heap} {s : Nat} {c : zC} (hR : zRep g h H) (hb : h.1.1 < 999999999) (hs : H1.size = H.size + 1) (hc : zco c) (hP : va_P (gD g) vwCl (zws g h ++ [(gb g + h.1.1, zc g c)]) H1) : zRep g (zpu h s c) H1 := by
  obtain ⟨h1, h2, h3, h4, h5, -⟩ := hR
  refine ⟨by rw [hs, h1]; simp [zpu]; omega, by simp [zpu]; omega, fun b hb hn => ?_, ?_, fun b hb => ?_, by rw [← zws_push]; exact hP⟩
  · simp only [zpu] at hb ⊢
    rw [if_neg (by omega)]
    exact h3 b (by omega) hn
  · simp only [zpu]
    rw [if_neg (by omega)]
    exact h4
  · simp only [zpu] at hb ⊢
    split
    · exact hc
    · exact h5 b (by omega)
/-! the machine's tables and what lies ahead of the base: the script, the String constants -/
abbrev zTys (g : zG) : List (ClassId × FieldType) := [(gA g 0, .byte), (gA g 1, .int), (gA g 2, .long), (gA g 3, .boolean), (gA g 4, .object RX3), (gA g 5, .object RX5), (gA g 6, .object RX9)]
def zbI : List (List Int32) := zSt.map (fun q => q.2.2.toList.map (fun c => nI c.toNat))
def zlen : List Nat := zbI.map List.length
/-- all that holds at every method's start, but its arguments and the abstract heap -/
def zGF (g : zG) (U : State) : Prop := va_K (gD g) vwCl (zTys g) U ∧ (va_X (gx g 0) (gL g) (gX g) U U.heap ∧ gx g 0 < gb g ∧ gb g ≤ U.heap.size) ∧ vk_S 6 zlen zbI (fun i => gx g (i + 1)) (gV g) (zA g) U U.heap ∧ (∀ i q, zSt[i]? = some q → vk_R q.1 q.2.1 q.2.2 (gx g (i + 1)) U) ∧ (∀ q ∈ zNF, va_Nw (.fieldLinkNest RX10 q.1 RX3 q.2.1 q.2.2 RX10) U) ∧ (∀ q ∈ zNM, va_Nw (.methodLinkNest (zNm q.1) q.2.1 q.2.2 RX10) U) ∧ (va_AO RX3 U ∧ va_AO RX5 U ∧ va_AO RX9 U) ∧ va_Z "java/lang/String" "COMPACT_STRINGS" "Z" (.int 1) (zA g) U U.heap ∧ va_Zq "jdk/internal/util/Preconditions" "SIOOBE_FORMATTER" "Ljava/util/function/BiFunction;" (zA g) U U.heap
theorem zGF.same {g : zG} {u U : State} (hv : U.vm = u.vm) (hh : U.heap = u.heap) (h : zGF g u) : zGF g U := by
  obtain ⟨h1, ⟨h2, h2', h2''⟩, h3, h4, h5, h6, ⟨h7, h8, h9⟩, h10, h11⟩ := h
  have ha : u.vm.Alike U.vm := by rw [hv]; exact Vm.Alike.refl _
  refine ⟨h1.moved ha, ⟨by rw [hh]; exact h2.moved ha, h2', by rw [hh]; exact h2''⟩, by rw [hh]; exact h3.moved ha, fun i q hq => (h4 i q hq).same hv, fun q hq => (h5 q hq).same rfl hv.symm, fun q hq => (h6 q hq).same rfl hv.symm, ⟨h7.moved ha, h8.moved ha, h9.moved ha⟩, by rw [hh]; exact h10.moved ha, by rw [hh]; exact h11.moved ha⟩
theorem zGF.warm {g : zG} {s U : State} {H : Heap} {locs : List Loc} (hW : s.WarmedH U.vm) (hS : va_S (zA g) s.heap H locs) (hU : U.heap = H) (h : zGF g s) : zGF g U := by
  obtain ⟨h1, ⟨h2, h2', h2''⟩, h3, h4, h5, h6, ⟨h7, h8, h9⟩, h10, h11⟩ := h
  have ha : s.vm.Alike U.vm := hW.alike
  have hk : ∀ a : Nat, a < s.heap.size → ¬ zA g a → H[a]? = s.heap[a]? := hS.2.1
  subst hU
  exact ⟨h1.moved ha, ⟨(h2.moved ha).kept (hk _ (Nat.lt_of_lt_of_le h2' h2'') (Nat.not_le.mpr h2')), h2', Nat.le_trans h2'' hS.1⟩, (h3.moved ha).kept hk, fun i q hq => (h4 i q hq).warm hW, fun q hq => (h5 q hq).warmF hW, fun q hq => (h6 q hq).warmM hW, ⟨h7.moved ha, h8.moved ha, h9.moved ha⟩, (h10.moved ha).kept hk, (h11.moved ha).kept hk⟩
