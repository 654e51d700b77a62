theorem zGF.same {g : zG} {u U : State} (hv : U.vm = u.vm) (hh : U.heap = u.heap) (h : zGF g u) : zGF g U := by
  obtain ⟨h1, ⟨h2, h2', h2''⟩, h3, h4, h5, h6, ⟨h7, h8, h9⟩, h10, h11⟩ := h
  have ha : u.vm.Alike U.vm := by rw [hv]; exact Vm.Alike.refl _
  refine ⟨h1.moved ha, ⟨by rw [hh]; exact h2.moved ha, h2', by rw [hh]; exact h2''⟩, by rw [hh]; exact h3.moved ha, fun i q hq => (h4 i q hq).same hv, fun q hq => (h5 q hq).same rfl hv.symm, fun q hq => (h6 q hq).same rfl hv.symm, ⟨h7.moved ha, h8.moved ha, h9.moved ha⟩, by rw [hh]; exact h10.moved ha, by rw [hh]; exact h11.moved ha⟩
theorem zGF.warm {g : zG} {s U : State} {H : Heap} {locs : List Loc} (hW : s.WarmedH U.vm) (hS : va_S (zA g) s.heap H locs) (hU : U.heap = H) (h : zGF g s) : zGF g U := by
  obtain ⟨h1, ⟨h2, h2', h2''⟩, h3, h4, h5, h6, ⟨h7, h8, h9⟩, h10, h11⟩ := h
  have ha : s.vm.Alike U.vm := hW.alike
  have hk : ∀ a : Nat, a < s.heap.size → ¬ zA g a → H[a]? = s.heap[a]? := hS.2.1
  subst hU
  exact ⟨h1.moved ha, ⟨(h2.moved ha).kept (hk _ (Nat.lt_of_lt_of_le h2' h2'') (Nat.not_le.mpr h2')), h2', Nat.le_trans h2'' hS.1⟩, (h3.moved ha).kept hk, fun i q hq => (h4 i q hq).warm hW, fun q hq => (h5 q hq).warmF hW, fun q hq => (h6 q hq).warmM hW, ⟨h7.moved ha, h8.moved ha, h9.moved ha⟩, (h10.moved ha).kept hk, (h11.moved ha).kept hk⟩
/-- what is known inside a method's body -/
def zX (g : zG) (M : zMd) (p : Program) (R : Room) (s : State) (m : MethodId) (args : Array Value) (meth : Method) (c : Code) : Prop :=
  p.tables.exec = Jvm.exec ∧ c.code = M.2.1 ∧ c.maxLocals = M.2.2.1 ∧ s.vm.findClass M.1.cls = some m.cls ∧ (∀ w ∈ zW, w.before args s = true) ∧ meth.sig.returnType = M.2.2.2.1 ∧ meth.locks = false ∧ meth.name = M.1.name ∧ R.frames = M.2.2.2.2.1 ∧ R.locals = M.2.2.2.2.2 ∧ zGF g s
/-- locals: a long's second word is none -/
def zLc (g : zG) (L : List (Option Value)) (ls : Array Slot) (n : Nat) : Prop := ls.size = n ∧ lv_wf ls ∧ ∀ i v, L[i]? = some (some v) → ls[i]? = some (.val (zv g v))
def zPc (g : zG) (as : List Value) (h : zH) : Array Value → State → Prop := fun v U => v = (as.map (zv g)).toArray ∧ zGF g U ∧ zRep g h U.heap
def zQc (g : zG) (Q : Option Value → zH → Prop) : Array Value → State → Outcome → State → Prop := fun _ st o t => (∃ r h', o = .returned (r.map (zv g)) ∧ Q r h' ∧ zRep g h' t.heap) ∧ va_F (zA g) st t
/-- from here the method comes to its end, with Q of the answer and the heap; it makes at most uc cells of us slots -/
def zR (g : zG) (M : zMd) (pc : Nat) (L : List (Option Value)) (st : List Value) (h : zH) (uc us : Nat) (Q : Option Value → zH → Prop) : Prop :=
  ∀ (p : Program) (l : Launch) (e : Env) (R : Room) (s : State) (m : MethodId) (args : Array Value) (below : List Frame) (meth : Method) (c : Code) (H : Heap) (locs : List Loc) (cells slots : Nat) (ls : Array Slot) (mc ms : Nat),
    zX g M p R s m args meth c → zRep g h H → va_S (zA g) s.heap H locs → zLc g L ls M.2.2.1 → (cells + uc ≤ mc ∧ slots + us ≤ ms ∧ mc ≤ R.cells ∧ ms ≤ R.slots) →
    W p l e R s m args below meth c H locs cells slots (MQ below (zQc g Q) args s mc ms (zA g)) (F0 m pc ls (st.map (zv g)))
def zrm (M : zMd) (uc us : Nat) : Room := { frames := M.2.2.2.2.1, cells := uc, slots := us, locals := M.2.2.2.2.2 }
def zwd (M : zMd) : List Cond := .code M.1 M.2.1 M.2.2.1 M.2.2.2.1 :: zW
/-- a method's contract at these arguments and this heap -/
def zK (g : zG) (M : zMd) (as : List Value) (h : zH) (uc us : Nat) (Q : Option Value → zH → Prop) : Prop := ∀ l : Launch, Met l M.1 (zwd M) (zrm M uc us) (zPc g as h) (zQc g Q) uc us (zA g)
def zsp : List Value → List (Option Value)
  | [] => []
  | v :: r => if v.category = 2 then some v :: none :: zsp r else some v :: zsp r
def zent (as : List Value) (n : Nat) : List (Option Value) := zsp as ++ List.replicate (n - (zsp as).length) none
theorem zsp_args (g : zG) : ∀ (as : List Value) (k i : Nat) (v : Value), (zsp as)[i]? = some (some v) → (k + i, zv g v) ∈ lv_args k (as.map (zv g))
  | [], k, i, v, h => by simp [zsp] at h
  | a :: r, k, i, v, h => by
    simp only [List.map_cons, lv_args]
    by_cases hc : a.category = 2
    · simp only [zsp, hc, if_true] at h
      match i, h with
      | 0, h =>
        simp at h; subst h
        simp
      | 1, h => simp at h
      | i + 2, h =>
        simp only [List.getElem?_cons_succ] at h
        have := zsp_args g r (k + 2) i v h
        rw [if_pos (show (zv g a).category = 2 by rw [zv_cat]; exact hc)]
        refine List.mem_cons_of_mem _ ?_
        rw [show k + (i + 2) = k + 2 + i by omega]
        exact this
    · simp only [zsp, hc, if_false] at h
      have hc1 : a.category = 1 := (lv_cat a).resolve_right hc
      match i, h with
      | 0, h =>
        simp at h; subst h
        simp
      | i + 1, h =>
        simp only [List.getElem?_cons_succ] at h
        have := zsp_args g r (k + 1) i v h
        rw [if_neg (show ¬ (zv g a).category = 2 by rw [zv_cat]; exact hc)]
        refine List.mem_cons_of_mem _ ?_
        rw [show k + (i + 1) = k + 1 + i by omega]
        exact this
theorem zent_Lc {g : zG} {as : List Value} {n : Nat} {ls : Array Slot} (h : lv_has ls n (lv_args 0 (as.map (zv g)))) : zLc g (zent as n) ls n := by
  refine ⟨h.1, h.2.1, ?_⟩
  intro i v hv
  unfold zent at hv
  by_cases hi : i < (zsp as).length
  · rw [List.getElem?_append_left hi] at hv
    have := zsp_args g as 0 i v hv
    rw [Nat.zero_add] at this
    exact h.2.2 _ this
  · rw [List.getElem?_append_right (by omega), List.getElem?_replicate] at hv
    split at hv <;> simp at hv
