/-! locals, and what is known inside a method's body -/
def zcon (g : zG) (L : List zV) (i : Nat) : Option Value := match L[i]? with
  | some (.inl z) => some (.int (Int32.ofInt z))
  | some (.inr (.inl a)) => some (zv g (vr a))
  | some (.inr (.inr (.inl z))) => match L[i + 1]? with
    | some (.inr (.inr (.inr true))) => some (.long (Int64.ofInt z))
    | _ => none
  | _ => none
def zlv (g : zG) (L : List zV) : List (Nat × Value) := (List.range L.length).filterMap (fun i => (zcon g L i).map (fun v => (i, v)))
theorem zcon_lt {g : zG} {L : List zV} {i : Nat} {v : Value} (h : zcon g L i = some v) : i < L.length := by
  rcases Nat.lt_or_ge i L.length with q | q
  · exact q
  · unfold zcon at h
    rw [List.getElem?_eq_none q] at h
    cases h
theorem zlv_mem {g : zG} {L : List zV} {i : Nat} {v : Value} : (i, v) ∈ zlv g L ↔ zcon g L i = some v := by
  unfold zlv
  rw [List.mem_filterMap]
  constructor
  · rintro ⟨j, -, hj⟩
    cases hc : zcon g L j with
    | none => rw [hc] at hj; cases hj
    | some w => rw [hc] at hj; cases hj; exact hc
  · intro h
    exact ⟨i, List.mem_range.mpr (zcon_lt h), by rw [h]; rfl⟩
def zlo (v : zV) : Prop := match v with
  | .inl z => i32 z = z
  | .inr (.inr (.inl z)) => i64 z = z
  | _ => True
theorem zvo_lo {v : zV} (h : zvo v) : zlo v := by
  match v, h with
  | .inl z, h => exact h
  | .inr (.inl a), _ => trivial
  | .inr (.inr (.inl z)), h => exact h
def zLc (g : zG) (L : List zV) (ls : Array Slot) (n : Nat) : Prop := lv_has ls n (zlv g L) ∧ L.length = n ∧ ∀ v ∈ L, zlo v
theorem zLc.get {g : zG} {L : List zV} {ls : Array Slot} {n i : Nat} {v : Value} (h : zLc g L ls n) (e : zcon g L i = some v) : ls[i]? = some (.val v) := h.1.2.2 (i, v) (zlv_mem.mpr e)
theorem zLc.lo {g : zG} {L : List zV} {ls : Array Slot} {n i : Nat} {v : zV} (h : zLc g L ls n) (e : L[i]? = some v) : zlo v := h.2.2 v (List.mem_of_getElem? e)
theorem zLc.set {g : zG} {L : List zV} {ls ls' : Array Slot} {n i : Nat} {v : zV} (h : zLc g L ls n) (hi : i < n) (hv : zvo v) (hc : zcat v = 1) (h' : lv_has ls' n ((i, zv g v) :: (zlv g L).filter (fun q => !(q.1 == i) && !(q.1 + 1 == i && q.2.category == 2)))) : zLc g (L.set i v) ls' n := by
  obtain ⟨-, hl, hw⟩ := h
  refine ⟨⟨h'.1, h'.2.1, ?_⟩, by rw [List.length_set]; exact hl, ?_⟩
  · rintro ⟨j, w⟩ hq
    have e := zlv_mem.mp hq
    by_cases hj : j = i
    · subst hj
      have hs : (L.set j v)[j]? = some v := List.getElem?_set_self (by omega)
      have : w = zv g v := by
        unfold zcon at e
        rw [hs] at e
        match v, hv, hc, e with
        | .inl z, _, _, e => cases e; rfl
        | .inr (.inl a), _, _, e => cases e; rfl
        | .inr (.inr (.inl z)), _, hc, _ => cases hc
      subst this
      exact h'.2.2 _ List.mem_cons_self
    · have hs : (L.set i v)[j]? = L[j]? := List.getElem?_set_ne (Ne.symm hj)
      have key : zcon g L j = some w ∧ ¬ (j + 1 = i ∧ w.category = 2) := by
        unfold zcon at e ⊢
        rw [hs] at e
        match hLj : L[j]?, e with
        | some (.inl z), e => cases e; exact ⟨rfl, fun q => by cases q.2⟩
        | some (.inr (.inl a)), e => cases e; exact ⟨rfl, fun q => by have := q.2; rw [zv_cat] at this; cases this⟩
        | some (.inr (.inr (.inl z))), e =>
          by_cases hji : j + 1 = i
          · subst hji
            have hs2 : (L.set (j + 1) v)[j + 1]? = some v := List.getElem?_set_self (by omega)
            simp only [hs2] at e
            rcases v with z' | a' | z' | b'
            · cases e
            · cases e
            · cases e
            · exact hv.elim
          · have hs2 : (L.set i v)[j + 1]? = L[j + 1]? := List.getElem?_set_ne (fun q => hji q.symm)
            rw [hs2] at e
            exact ⟨e, fun q => hji q.1⟩
      refine h'.2.2 _ (List.mem_cons_of_mem _ (List.mem_filter.mpr ⟨zlv_mem.mpr key.1, ?_⟩))
      have k2 := key.2
      simp only [Bool.and_eq_true, Bool.not_eq_true', beq_eq_false_iff_ne, ne_eq, Bool.and_eq_false_imp, beq_iff_eq]
      exact ⟨hj, fun q1 q2 => k2 ⟨q1, q2⟩⟩
  · intro w hw'
    rcases List.mem_or_eq_of_mem_set hw' with q | q
    · exact hw w q
    · subst q; exact zvo_lo hv
theorem zLc.set2 {g : zG} {L : List zV} {ls ls' : Array Slot} {n i : Nat} {z : Int} (h : zLc g L ls n) (hi : i + 1 < n) (hv : i64 z = z) (h' : lv_has ls' n ((i, Value.long (Int64.ofInt z)) :: (zlv g L).filter (fun q => !(q.1 == i) && (!(q.1 == i + 1) && !(q.1 + 1 == i && q.2.category == 2))))) : zLc g ((L.set i (vl z)).set (i + 1) vs) ls' n := by
  obtain ⟨-, hl, hw⟩ := h
  refine ⟨⟨h'.1, h'.2.1, ?_⟩, by rw [List.length_set, List.length_set]; exact hl, ?_⟩
  · rintro ⟨j, w⟩ hq
    have e := zlv_mem.mp hq
    have hs1 : ((L.set i (vl z)).set (i + 1) vs)[i + 1]? = some vs := List.getElem?_set_self (by rw [List.length_set]; omega)
    have hs0 : ((L.set i (vl z)).set (i + 1) vs)[i]? = some (vl z) := by
      rw [List.getElem?_set_ne (by omega)]
      exact List.getElem?_set_self (by omega)
    have hsn : ∀ k, k ≠ i → k ≠ i + 1 → ((L.set i (vl z)).set (i + 1) vs)[k]? = L[k]? := fun k h1 h2 => by
      rw [List.getElem?_set_ne (Ne.symm h2), List.getElem?_set_ne (Ne.symm h1)]
    by_cases hj : j = i
    · subst hj
      unfold zcon at e
      simp only [hs0, hs1] at e
      cases e
      exact h'.2.2 _ List.mem_cons_self
    · by_cases hj1 : j = i + 1
      · subst hj1
        unfold zcon at e
        rw [hs1] at e
        cases e
      · have key : zcon g L j = some w ∧ ¬ (j + 1 = i ∧ w.category = 2) := by
          unfold zcon at e ⊢
          rw [hsn j hj hj1] at e
          match hLj : L[j]?, e with
          | some (.inl z), e => cases e; exact ⟨rfl, fun q => by cases q.2⟩
          | some (.inr (.inl a)), e => cases e; exact ⟨rfl, fun q => by have := q.2; rw [zv_cat] at this; cases this⟩
          | some (.inr (.inr (.inl z'))), e =>
            by_cases hji : j + 1 = i
            · rw [hji] at e
              simp only [hs0] at e
              cases e
            · rw [hsn (j + 1) hji (by omega)] at e
              exact ⟨e, fun q => hji q.1⟩
        refine h'.2.2 _ (List.mem_cons_of_mem _ (List.mem_filter.mpr ⟨zlv_mem.mpr key.1, ?_⟩))
        have k2 := key.2
        simp only [Bool.and_eq_true, Bool.not_eq_true', beq_eq_false_iff_ne, ne_eq, Bool.and_eq_false_imp, beq_iff_eq]
        exact ⟨hj, hj1, fun q1 q2 => k2 ⟨q1, q2⟩⟩
  · intro w hw'
    rcases List.mem_or_eq_of_mem_set hw' with q | q
    · rcases List.mem_or_eq_of_mem_set q with q | q
      · exact hw w q
      · subst q; exact hv
    · subst q; trivial
theorem zsp_args (g : zG) : ∀ (as : List zV) (pre : List zV) (j : Nat) (w : Value), (∀ v ∈ as, zvo v) → pre.length ≤ j → zcon g (pre ++ zsp as) j = some w → (j, w) ∈ lv_args pre.length (as.map (zv g))
  | [], pre, j, w, _, hj, h => by
    have := zcon_lt h
    simp only [zsp, List.append_nil] at this
    omega
  | a :: r, pre, j, w, ho, hj, h => by
    have ha := ho a List.mem_cons_self
    have hr : ∀ v ∈ r, zvo v := fun v hv => ho v (List.mem_cons_of_mem _ hv)
    simp only [List.map_cons, lv_args]
    by_cases hc : zcat a = 2
    · have hz : zsp (a :: r) = a :: vs :: zsp r := by simp [zsp, hc]
      rw [hz] at h
      rw [if_pos (show (zv g a).category = 2 by rw [zv_cat]; exact hc)]
      have he : pre ++ a :: vs :: zsp r = (pre ++ [a, vs]) ++ zsp r := by simp
      by_cases hj0 : j = pre.length
      · subst hj0
        have h0 : (pre ++ a :: vs :: zsp r)[pre.length]? = some a := by simp
        have h1 : (pre ++ a :: vs :: zsp r)[pre.length + 1]? = some vs := by
          rw [List.getElem?_append_right (by omega)]
          simp
        match a, hc with
        | .inr (.inr (.inl z)), _ =>
          unfold zcon at h
          simp only [h0, h1] at h
          cases h
          exact List.mem_cons_self
      · by_cases hj1 : j = pre.length + 1
        · subst hj1
          have h1 : (pre ++ a :: vs :: zsp r)[pre.length + 1]? = some vs := by
            rw [List.getElem?_append_right (by omega)]
            simp
          unfold zcon at h
          rw [h1] at h
          cases h
        · rw [he] at h
          have := zsp_args g r (pre ++ [a, vs]) j w hr (by simp; omega) h
          refine List.mem_cons_of_mem _ ?_
          simpa using this
    · have hz : zsp (a :: r) = a :: zsp r := by simp [zsp, hc]
      rw [hz] at h
      rw [if_neg (show ¬ (zv g a).category = 2 by rw [zv_cat]; exact hc)]
      have he : pre ++ a :: zsp r = (pre ++ [a]) ++ zsp r := by simp
      by_cases hj0 : j = pre.length
      · subst hj0
        have h0 : (pre ++ a :: zsp r)[pre.length]? = some a := by simp
        have : w = zv g a := by
          unfold zcon at h
          rw [h0] at h
          match a, hc, ha, h with
          | .inl z, _, _, h => cases h; rfl
          | .inr (.inl z), _, _, h => cases h; rfl
          | .inr (.inr (.inl z)), hc, _, _ => exact absurd rfl hc
        subst this
        exact List.mem_cons_self
      · rw [he] at h
        have := zsp_args g r (pre ++ [a]) j w hr (by simp; omega) h
        refine List.mem_cons_of_mem _ ?_
        simpa using this
theorem zsp_len (g : zG) : ∀ (as : List zV), (zsp as).length = (lg_sl (as.map (zv g))).length
  | [] => rfl
  | a :: r => by
    by_cases hc : zcat a = 2
    · have hc2 : (zv g a).category = 2 := by rw [zv_cat]; exact hc
      simp [zsp, hc, lg_sl, hc2, zsp_len g r]
    · have hc2 : ¬ (zv g a).category = 2 := by rw [zv_cat]; exact hc
      simp [zsp, hc, lg_sl, hc2, zsp_len g r]
theorem zsp_lo : ∀ (as : List zV), (∀ v ∈ as, zvo v) → ∀ v ∈ zsp as, zlo v
  | [], _, v, hv => by cases hv
  | a :: r, ho, v, hv => by
    have hr : ∀ v ∈ r, zvo v := fun v hv => ho v (List.mem_cons_of_mem _ hv)
    unfold zsp at hv
    split at hv
    · rcases List.mem_cons.mp hv with q | q
      · subst q; exact zvo_lo (ho _ List.mem_cons_self)
      · rcases List.mem_cons.mp q with q | q
        · subst q; trivial
        · exact zsp_lo r hr v q
    · rcases List.mem_cons.mp hv with q | q
      · subst q; exact zvo_lo (ho _ List.mem_cons_self)
      · exact zsp_lo r hr v q
theorem zent_Lc {g : zG} {as : List zV} {n : Nat} {ls : Array Slot} (ho : ∀ v ∈ as, zvo v) (hn : (zsp as).length ≤ n) (h : lv_has ls n (lv_args 0 (as.map (zv g)))) : zLc g (zent as n) ls n := by
  refine ⟨⟨h.1, h.2.1, ?_⟩, by simp [zent]; omega, ?_⟩
  · rintro ⟨j, w⟩ hq
    have e := zlv_mem.mp hq
    unfold zent at e
    have hlt : j < (zsp as).length := by
      rcases Nat.lt_or_ge j (zsp as).length with q | q
      · exact q
      · unfold zcon at e
        rw [List.getElem?_append_right q, List.getElem?_replicate] at e
        by_cases hh : j - (zsp as).length < n - (zsp as).length
        · rw [if_pos hh] at e; cases e
        · rw [if_neg hh] at e; cases e
    have e2 : zcon g (zsp as) j = some w := by
      unfold zcon at e ⊢
      rw [List.getElem?_append_left hlt] at e
      match hL : (zsp as)[j]?, e with
      | some (.inl z), e => exact e
      | some (.inr (.inl z)), e => exact e
      | some (.inr (.inr (.inl z))), e =>
        rcases Nat.lt_or_ge (j + 1) (zsp as).length with q | q
        · rw [List.getElem?_append_left q] at e
          exact e
        · rw [List.getElem?_append_right q, List.getElem?_replicate] at e
          by_cases hh : j + 1 - (zsp as).length < n - (zsp as).length
          · rw [if_pos hh] at e; cases e
          · rw [if_neg hh] at e; cases e
    exact h.2.2 _ (zsp_args g as [] j w ho (Nat.zero_le _) e2)
  · intro v hv
    unfold zent at hv
    rcases List.mem_append.mp hv with q | q
    · exact zsp_lo as ho v q
    · rw [(List.mem_replicate.mp q).2]; trivial
/-- what is known inside a method's body -/
def zX (g : zG) (M : zMd) (p : Program) (R : Room) (s : State) (m : MethodId) (args : Array Value) (meth : Method) (c : Code) : Prop :=
  p.tables.exec = Jvm.exec ∧ c.code = mC M ∧ c.maxLocals = mL M ∧ s.vm.findClass (zNm (mO M)) = some m.cls ∧ (∀ w ∈ zW, w.before args s = true) ∧ meth.sig.returnType = mR M ∧ meth.locks = false ∧ (mI M = 1 → meth.name = "<init>") ∧ mF M ≤ R.frames ∧ mW M ≤ R.locals ∧ zGF g s
/-- from such a state the real machine comes to Q -/
def zAt (g : zG) (M : zMd) (p : Program) (l : Launch) (e : Env) (R : Room) (s : State) (m : MethodId) (args : Array Value) (below : List Frame) (meth : Method) (c : Code) (Q : State → Prop) (c0 s0 : Nat) (pc : Nat) (L st : List zV) (h : zH) : Prop :=
  ∀ (H : Heap) (locs : List Loc) (cells slots : Nat) (ls : Array Slot), zRep g h H → va_S (zA g) s.heap H locs → zLc g L ls (mL M) → (∀ v ∈ st, zvo v) → c0 + cells = h.1.1 → s0 + slots = h.1.2 → W p l e R s m args below meth c H locs cells slots Q (F0 m pc ls (st.map (zv g)))
