/-! soundness: calls, returns -/
def zrv (g : zG) (r : zV) : Option Value := match r with
  | .inr (.inr (.inr _)) => none
  | v => some (zv g v)
def zro (r : zV) : Prop := match r with
  | .inr (.inr (.inr _)) => True
  | v => zvo v
def zPc (g : zG) (as : List zV) (h : zH) : Array Value → State → Prop := fun v U => v = (as.map (zv g)).toArray ∧ zGF g U ∧ zRep g h U.heap
def zQc (g : zG) (r : zV) (h' : zH) : Array Value → State → Outcome → State → Prop := fun _ st o t => (o = .returned (zrv g r) ∧ zRep g h' t.heap ∧ zro r) ∧ va_F (zA g) st t
theorem zPc.blind {g : zG} {as : List zV} {h : zH} : FrameBlind (zPc g as h) := fun _ _ _ _ q => ⟨q.1, q.2.1.same rfl rfl, q.2.2⟩
theorem zgood {w : Cond} (h : w ∈ zW) : (w.onTables && w.keeps) = true ∨ ∃ ty, w = .arrayClass ty := good_of_word (List.mem_filter.mp h).2
theorem zGood {ws : List Cond} (h : ∀ w ∈ ws, w ∈ zW) : GoodIn zW ws := fun w hw => ⟨h w hw, zgood (h w hw)⟩
def zwd (Y : zMd) : List Cond := .code (mN Y) (mC Y) (mL Y) (mR Y) :: zW
def zrm (Y : zMd) (uc us : Nat) : Room := { frames := mF Y, cells := uc, slots := us, locals := mW Y }
theorem zwd_in {Y : zMd} (h : Cond.code (mN Y) (mC Y) (mL Y) (mR Y) ∈ zW) : ∀ w ∈ zwd Y, w ∈ zW := List.forall_mem_cons.mpr ⟨h, fun _ h => h⟩
section ZC
variable {g : zG} {M : zMd} {p : Program} {l : Launch} {e : Env} {R : Room} {s : State} {m : MethodId} {args : Array Value} {below : List Frame} {meth : Method} {c : Code} {Q : State → Prop} {c0 s0 : Nat} {pc ln : Nat} {L st : List zV} {h : zH} {pc' : Nat} {L' st' : List zV} {h' : zH}
/-- behind a call -/
theorem zrunW {H : Heap} {locs : List Loc} {cells slots uc us : Nat} {ls : Array Slot} {st0 : List Value} {r : zV} {h1 : zH} {a : Array Value} {rest : List zV} (hr : va_Run p l e R s m args below meth c H locs cells slots uc us (F0 m pc ls st0) (rest.map (zv g)) (zQc g r h1 a) (zA g)) (hS : va_S (zA g) s.heap H locs) (hL : zLc g L ls (mL M)) (hst : ∀ v ∈ rest, zvo v) (hc : c0 + (cells + uc) = h1.1.1) (hs : s0 + (slots + us) = h1.1.2) (k : zAt g M p l e R s m args below meth c Q c0 s0 (pc + 3) L (zpv r rest) h1) : W p l e R s m args below meth c H locs cells slots Q (F0 m pc ls st0) := by
  intro T hT X
  obtain ⟨v, st₀, t, T', LL, h0, X', hLL, e1, e2, ⟨⟨hv, hRep, hro⟩, hF⟩, st⟩ := hr T hT X
  have hv : v = zrv g r := Outcome.returned.inj hv
  subst hv
  have hSn : va_S (zA g) s.heap T'.heap (locs ++ LL) := by
    refine ⟨?_, fun q a b => ?_, fun q hq => ?_⟩
    · rw [e1]; exact Nat.le_trans hS.1 (by rw [← h0]; exact hF.1)
    · rw [e1, hF.2 q (by rw [h0]; exact Nat.lt_of_lt_of_le a hS.1) b, h0]
      exact hS.2.1 q a b
    · rcases List.mem_append.mp hq with z | z
      · exact hS.2.2 q z
      · exact hLL q z
  have key : (zpv r rest).map (zv g) = (zrv g r).toList ++ rest.map (zv g) ∧ ∀ v ∈ zpv r rest, zvo v := by
    match r, hro with
    | .inl z, hro => exact ⟨rfl, fac hro hst⟩
    | .inr (.inl z), hro => exact ⟨rfl, fac hro hst⟩
    | .inr (.inr (.inl z)), hro => exact ⟨rfl, fac hro hst⟩
    | .inr (.inr (.inr b)), _ => exact ⟨rfl, hst⟩
  have k2 := k T'.heap (locs ++ LL) (cells + uc) (slots + us) ls (by rw [e1]; exact hRep) hSn hL key.2 hc hs
  rw [key.1] at k2
  obtain ⟨t2, a1, b1⟩ := k2 T' rfl X'
  exact ⟨t2, st t2 a1, b1⟩
/-- a method's run gives its contract -/
def zR (g : zG) (M : zMd) (pc : Nat) (L st : List zV) (h : zH) (r : zV) (h' : zH) : Prop :=
  ∀ (p : Program) (l : Launch) (e : Env) (R : Room) (s : State) (m : MethodId) (args : Array Value) (below : List Frame) (meth : Method) (c : Code) (Q : State → Prop) (c0 s0 : Nat), zX g M p R s m args meth c → s.heap.size = gb g + c0 → (h'.1.1 ≤ c0 + R.cells ∧ h'.1.2 ≤ s0 + R.slots) →
    (∀ (pc : Nat) (L st : List zV), (∃ (I : ClassFile.Instr) (ln : Nat), ClassFile.decode (mC M) pc = .ok (I, ln) ∧ stp M I ln pc L st h' = some (.inr (.inl (r, h')))) → zAt g M p l e R s m args below meth c Q c0 s0 pc L st h') → zAt g M p l e R s m args below meth c Q c0 s0 pc L st h
theorem zs_iret (X : zX g M p R s m args meth c) {r : zV} (d : ClassFile.decode (mC M) pc = .ok (.ireturn, ln)) (E : stp M .ireturn ln pc L st h = some (.inr (.inl (r, h')))) : zAt g M p l e R s m args below meth c (MQ below (zQc g r h') args s (h.1.1 - c0) (h.1.2 - s0) (zA g)) c0 s0 pc L st h := by
  replace E := zg_inv E
  obtain ⟨hln, E⟩ := E
  have hln : ln = 1 := by simpa using hln
  subst hln
  intro H locs cells slots ls hR hS hL hst hc hs
  obtain ⟨hx, hb, hml, hown, hts, hret, hlk, hini, hfr, hwd, hG⟩ := X
  rw [show h.1.1 - c0 = cells by omega, show h.1.2 - s0 = slots by omega]
  split at E
  · rename_i z
    have hz0 : i32 z = z := (fa1 hst).1
    split at E
    · rename_i hm
      cases E
      exact W.iret hx hb (by rw [hret]; exact hm) (fun t ht hW => ⟨⟨rfl, by rw [ht]; exact hR, hz0⟩, hS.F ht⟩) hS.2.2 d hlk
    · rename_i hm
      split at E
      · rename_i hz
        cases E
        refine W.zret hx hb (by rw [hret]; exact hm) ?_ (fun t ht hW => ⟨⟨rfl, by rw [ht]; exact hR, hz0⟩, hS.F ht⟩) hS.2.2 d hlk
        rcases hz with rfl | rfl
        · rfl
        · show Value.int ((Int32.ofInt 1) &&& 1) = Value.int (Int32.ofInt 1)
          decide
      · cases E
    · cases E
  · cases E
theorem zs_lret (X : zX g M p R s m args meth c) {r : zV} (d : ClassFile.decode (mC M) pc = .ok (.lreturn, ln)) (E : stp M .lreturn ln pc L st h = some (.inr (.inl (r, h')))) : zAt g M p l e R s m args below meth c (MQ below (zQc g r h') args s (h.1.1 - c0) (h.1.2 - s0) (zA g)) c0 s0 pc L st h := by
  replace E := zg_inv E
  obtain ⟨hln, E⟩ := E
  have hln : ln = 1 := by simpa using hln
  subst hln
  intro H locs cells slots ls hR hS hL hst hc hs
  obtain ⟨hx, hb, hml, hown, hts, hret, hlk, hini, hfr, hwd, hG⟩ := X
  rw [show h.1.1 - c0 = cells by omega, show h.1.2 - s0 = slots by omega]
  split at E
  · rename_i z hm
    cases E
    exact W.lret hx hb (by rw [hret]; exact hm) (fun t ht hW => ⟨⟨rfl, by rw [ht]; exact hR, (fa1 hst).1⟩, hS.F ht⟩) hS.2.2 d hlk
  · cases E
theorem zs_aret (X : zX g M p R s m args meth c) {r : zV} (d : ClassFile.decode (mC M) pc = .ok (.areturn, ln)) (E : stp M .areturn ln pc L st h = some (.inr (.inl (r, h')))) : zAt g M p l e R s m args below meth c (MQ below (zQc g r h') args s (h.1.1 - c0) (h.1.2 - s0) (zA g)) c0 s0 pc L st h := by
  replace E := zg_inv E
  obtain ⟨hln, E⟩ := E
  have hln : ln = 1 := by simpa using hln
  subst hln
  intro H locs cells slots ls hR hS hL hst hc hs
  obtain ⟨hx, hb, hml, hown, hts, hret, hlk, hini, hfr, hwd, hG⟩ := X
  rw [show h.1.1 - c0 = cells by omega, show h.1.2 - s0 = slots by omega]
  split at E
  · rename_i C a hm
    cases E
    refine W.aret hx hb (by rw [hret]; exact hm) (Or.inl ⟨_, rfl⟩) ?_ (fun t ht hW => ⟨⟨rfl, by rw [ht]; exact hR, trivial⟩, hS.F ht⟩) hS.2.2 d hlk
    by_cases h0 : a = 0
    · subst h0; exact Or.inl rfl
    · rw [zv_r g h0]; exact Or.inr ⟨_, rfl⟩
  · cases E
theorem zs_vret (X : zX g M p R s m args meth c) {r : zV} (d : ClassFile.decode (mC M) pc = .ok (.return_, ln)) (E : stp M .return_ ln pc L st h = some (.inr (.inl (r, h')))) : zAt g M p l e R s m args below meth c (MQ below (zQc g r h') args s (h.1.1 - c0) (h.1.2 - s0) (zA g)) c0 s0 pc L st h := by
  replace E := zg_inv E
  obtain ⟨hln, E⟩ := E
  have hln : ln = 1 := by simpa using hln
  subst hln
  intro H locs cells slots ls hR hS hL hst hc hs
  obtain ⟨hx, hb, hml, hown, hts, hret, hlk, hini, hfr, hwd, hG⟩ := X
  rw [show h.1.1 - c0 = cells by omega, show h.1.2 - s0 = slots by omega]
  split at E
  · rename_i hm
    cases E
    exact W.vret hx hb (by rw [hret]; exact hm) (fun t ht hW => ⟨⟨rfl, by rw [ht]; exact hR, trivial⟩, hS.F ht⟩) hS.2.2 d hlk
  · cases E
end ZC
