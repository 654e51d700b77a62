/-! an abstract heap (size, cells by address), abstract values; their real ones behind a base -/
abbrev zC : Type := (Nat × vp_A) ⊕ (Nat × List Value)
abbrev zH : Type := Nat × (Nat → Option zC)
abbrev zG : Type := va_G × (Nat → ClassId) × Nat × (Nat → Nat) × (Nat → Nat) × Nat × (Nat → Int32)
abbrev gD (g : zG) : va_G := g.1
abbrev gA (g : zG) : Nat → ClassId := g.2.1
abbrev gb (g : zG) : Nat := g.2.2.1
abbrev gx (g : zG) : Nat → Nat := g.2.2.2.1
abbrev gV (g : zG) : Nat → Nat := g.2.2.2.2.1
abbrev gL (g : zG) : Nat := g.2.2.2.2.2.1
abbrev gX (g : zG) : Nat → Int32 := g.2.2.2.2.2.2
/-- a method: its name, code, locals, what it returns, the frames and the words that it needs below it -/
abbrev zMd : Type := MethodName × ByteArray × Nat × Option FieldType × Nat × Nat
def zup (h : zH) (a : Nat) (c : zC) : zH := (h.1, fun j => if j = a then some c else h.2 j)
def zpush (h : zH) (c : zC) : zH := (h.1 + 1, fun j => if j = h.1 then some c else h.2 j)
theorem zup_s {h : zH} {a : Nat} {c : zC} : (zup h a c).2 a = some c := by simp [zup]
theorem zup_n {h : zH} {a b : Nat} {c : zC} (n : b ≠ a) : (zup h a c).2 b = h.2 b := by simp [zup, n]
theorem zpush_s {h : zH} {c : zC} : (zpush h c).2 h.1 = some c := by simp [zpush]
theorem zpush_n {h : zH} {b : Nat} {c : zC} (n : b ≠ h.1) : (zpush h c).2 b = h.2 b := by simp [zpush, n]
theorem zup_zup {h : zH} {a : Nat} {c d : zC} : zup (zup h a c) a d = zup h a d := by
  simp only [zup]; congr 1; funext j; by_cases q : j = a <;> simp [q]
theorem zup_comm {h : zH} {a b : Nat} {c d : zC} (n : a ≠ b) : zup (zup h a c) b d = zup (zup h b d) a c := by
  simp only [zup]; congr 1; funext j
  by_cases q : j = a
  · subst q; simp [n]
  · by_cases r : j = b
    · subst r; simp [Ne.symm n]
    · simp [q, r]
theorem zup_id {h : zH} {a : Nat} {c : zC} (e : h.2 a = some c) : zup h a c = h := by
  obtain ⟨n, f⟩ := h
  simp only [zup]; congr 1; funext j
  by_cases q : j = a
  · subst q; simp; exact e.symm
  · simp [q]
def zf (g : zG) (a : Nat) : Nat := if a < 1000000000 then gb g + a else gx g (a - 1000000000)
theorem zf_lt {g : zG} {a : Nat} (h : a < 1000000000) : zf g a = gb g + a := if_pos h
def zv (g : zG) (v : Value) : Value := match v with
  | .ref a => .ref (zf g a)
  | .int x => .int x
  | .long x => .long x
  | .float x => .float x
  | .double x => .double x
  | .null => .null
  | .retAddr x => .retAddr x
theorem zv_cat (g : zG) (v : Value) : (zv g v).category = v.category := by cases v <;> rfl
def zc (g : zG) (c : zC) : va_E := match c with
  | .inl (k, n, .inl f) => .inl (gA g k, n, .inl f)
  | .inl (k, n, .inr (.inl f)) => .inl (gA g k, n, .inr (.inl f))
  | .inl (k, n, .inr (.inr (.inl f))) => .inl (gA g k, n, .inr (.inr (.inl f)))
  | .inl (k, n, .inr (.inr (.inr (.inl f)))) => .inl (gA g k, n, .inr (.inr (.inr (.inl f))))
  | .inl (k, n, .inr (.inr (.inr (.inr f)))) => .inl (gA g k, n, .inr (.inr (.inr (.inr (fun j => (f j).map (zf g))))))
  | .inr (ci, fs) => .inr (ci, fs.map (zv g))
def zws (g : zG) (h : zH) : va_W := (List.range h.1).map (fun a => (gb g + a, zc g ((h.2 a).getD (.inr (0, [])))))
def zRep (g : zG) (h : zH) (H : Heap) : Prop := H.size = gb g + h.1 ∧ h.1 ≤ 1000000000 ∧ (∀ a c, h.2 a = some c → a < h.1) ∧ (∀ a, a < h.1 → ∃ c, h.2 a = some c) ∧ va_P (gD g) vwCl (zws g h) H
theorem zws_get {g : zG} {h : zH} {a : Nat} {c : zC} (hl : a < h.1) (e : h.2 a = some c) : (zws g h)[a]? = some (gb g + a, zc g c) := by
  simp [zws, List.getElem?_map, List.getElem?_range hl, e]
theorem zws_inv {g : zG} {h : zH} {k : Nat} {q : Nat × va_E} (e : (zws g h)[k]? = some q) : k < h.1 ∧ q.1 = gb g + k := by
  have hl : k < (zws g h).length := (List.getElem?_eq_some_iff.mp e).1
  have hk : k < h.1 := by simpa [zws] using hl
  refine ⟨hk, ?_⟩
  simp only [zws, List.getElem?_map, List.getElem?_range hk, Option.map_some, Option.some.injEq] at e
  rw [← e]
abbrev zA (g : zG) : Nat → Prop := fun q => gb g ≤ q
theorem zws_D {g : zG} {h : zH} : va_D (zA g) (zws g h) := by
  refine ⟨fun i j p q hi hj e => ?_, fun k q hk => ?_⟩
  · have h1 := (zws_inv hi).2
    have h2 := (zws_inv hj).2
    omega
  · have h1 := (zws_inv hk).2
    show gb g ≤ q.1
    omega
theorem zws_up {g : zG} {h : zH} {a : Nat} {c : zC} (hl : a < h.1) : (zws g h).set a (gb g + a, zc g c) = zws g (zup h a c) := by
  apply List.ext_getElem?
  intro i
  by_cases hi : i = a
  · subst hi
    rw [List.getElem?_set_self (by simpa [zws] using hl), zws_get (h := zup h i c) hl zup_s]
  · rw [List.getElem?_set_ne (Ne.symm hi)]
    by_cases hk : i < h.1
    · simp [zws, List.getElem?_map, List.getElem?_range hk, zup, hi]
    · rw [List.getElem?_eq_none (by simpa [zws] using hk), List.getElem?_eq_none (by simpa [zws, zup] using hk)]
theorem zws_push {g : zG} {h : zH} {c : zC} : zws g h ++ [(gb g + h.1, zc g c)] = zws g (zpush h c) := by
  simp only [zws, zpush, List.range_succ, List.map_append, List.map_cons, List.map_nil]
  congr 1
  · apply List.map_congr_left
    intro a ha
    have : a ≠ h.1 := by have := List.mem_range.mp ha; omega
    simp [this]
theorem zRep.up {g : zG} {h : zH} {H : Heap} {a : Nat} {c0 c : zC} {H1 : Heap} (hR : zRep g h H) (e : h.2 a = some c0) (hs : H1.size = H.size) (hP : va_P (gD g) vwCl ((zws g h).set a (gb g + a, zc g c)) H1) : zRep g (zup h a c) H1 := by
  obtain ⟨h1, h2, h3, h4, -⟩ := hR
  have hl := h3 _ _ e
  refine ⟨hs.trans h1, h2, fun b d hb => ?_, fun b hb => ?_, by rw [← zws_up hl]; exact hP⟩
  · by_cases q : b = a
    · subst q; exact hl
    · rw [zup_n q] at hb; exact h3 _ _ hb
  · by_cases q : b = a
    · subst q; exact ⟨_, zup_s⟩
    · rw [zup_n q]; exact h4 _ hb
theorem zRep.push {g : zG} {h : zH} {H : Heap} {c : zC} {H1 : Heap} (hR : zRep g h H) (hb : h.1 + 1 ≤ 1000000000) (hs : H1.size = H.size + 1) (hP : va_P (gD g) vwCl (zws g h ++ [(gb g + h.1, zc g c)]) H1) : zRep g (zpush h c) H1 := by
  obtain ⟨h1, h2, h3, h4, -⟩ := hR
  refine ⟨by rw [hs, h1]; simp [zpush]; omega, hb, fun b d e => ?_, fun b hb => ?_, by rw [← zws_push]; exact hP⟩
  · by_cases q : b = h.1
    · subst q; simp [zpush]
    · rw [zpush_n q] at e; have := h3 _ _ e; simp [zpush]; omega
  · by_cases q : b = h.1
    · subst q; exact ⟨_, zpush_s⟩
    · rw [zpush_n q]; exact h4 _ (by simp [zpush] at hb; omega)
theorem zRep.lt {g : zG} {h : zH} {H : Heap} {a : Nat} {c : zC} (hR : zRep g h H) (e : h.2 a = some c) : zf g a = gb g + a := zf_lt (Nat.lt_of_lt_of_le (hR.2.2.1 _ _ e) hR.2.1)
/-! the machine's tables and what lies ahead of the base: the script, the String constants -/
abbrev zTys (g : zG) : List (ClassId × FieldType) := [(gA g 0, .byte), (gA g 1, .int), (gA g 2, .long), (gA g 3, .boolean), (gA g 4, .object RX3), (gA g 5, .object RX5), (gA g 6, .object RX9)]
def zW : List Cond := lw_tbl.filter goodWord
def zNF : List (Nat × String × String) := [(288, "made", "Z"), (291, "now", "LEdgeWalk$World;"), (292, "told", "LEdgeWalk$World;"), (293, "notes", "LEdgeWalk$Notes;"), (297, "inForce", "I"), (298, "x", "I")]
def zNM : List (String × Nat × MethodName) := [(RX10, 18, yX7_init), (RX10, 25, yX6_init), (RX10, 48, yX9_init), (RX10, 61, yX4_init), (RX10, 81, yX0_init), (RX10, 9, yX8_init), (RX10, 96, yX3_init), (RX2, 24, yX9_init), (RX3, 11, yX9_init), (RX3, 23, yX4_init), (RX7, 65, yX10_within)]
def zSt : List (String × Nat × String) := [(RX7, 28, "sheet goer join stone"), (RX6, 89, "turn"), (RX6, 95, "goer cell row column faces food margin stone here been step"), (RX6, 107, "not"), (RX6, 124, "if"), (RX6, 129, "or and")]
def zbyt : List (List Int32) := zSt.map (fun q => q.2.2.toList.map (fun c => nI c.toNat))
def zlen : List Nat := zbyt.map List.length
/-- all that holds at every method's start, but its arguments and the abstract heap -/
def zGF (g : zG) (U : State) : Prop := va_K (gD g) vwCl (zTys g) U ∧ (va_X (gx g 0) (gL g) (gX g) U U.heap ∧ gx g 0 < gb g ∧ gb g ≤ U.heap.size) ∧ vk_S 6 zlen zbyt (fun i => gx g (i + 1)) (gV g) (zA g) U U.heap ∧ (∀ i q, zSt[i]? = some q → vk_R q.1 q.2.1 q.2.2 (gx g (i + 1)) U) ∧ (∀ q ∈ zNF, va_Nw (.fieldLinkNest RX10 q.1 RX3 q.2.1 q.2.2 RX10) U) ∧ (∀ q ∈ zNM, va_Nw (.methodLinkNest q.1 q.2.1 q.2.2 RX10) U) ∧ (va_AO RX3 U ∧ va_AO RX5 U ∧ va_AO RX9 U) ∧ va_Z "java/lang/String" "COMPACT_STRINGS" "Z" (.int 1) (zA g) U U.heap ∧ va_Zq "jdk/internal/util/Preconditions" "SIOOBE_FORMATTER" "Ljava/util/function/BiFunction;" (zA g) U U.heap
