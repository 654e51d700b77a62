def R_law : String := "EdgeWalkLaw"
def lw_P (b : Addr) (xs : List Int32) (args : Array Value) (s : State) : Prop := args = #[.ref b] ∧ s.IntsAt b xs ∧ xs.length ≤ 3072 ∧ (Jvm.Cond.and given_1 narrow_1).before args s = true
def lw_Q (_ : Array Value) (s : State) (o : Outcome) (t : State) : Prop := o = .returned (some (.int 1)) ∧ Framed s o t [] 600000 7302250
def lw_Z (below : List Frame) (a : Array Value) (s : State) : State → Prop := fun t => ∃ o, t.status = .running ∧ Ended t below o ∧ lw_Q a s o t
/-- the law's own end, with 1 on the stack, nothing written that was there before, its room as the claim has it -/
theorem lw_ret {p : Program} {l : Launch} {e : Env} {s : State} {m : MethodId} {below : List Frame} {meth : Method} {c : Code} {b : Nat} (hx : p.tables.exec = Jvm.exec) (hb : c.code = code) (hr : meth.sig.returnType = ret) (hlocks : meth.locks = false) {pc : Nat} {H : Heap} {ls : Array Slot} (hdg : decode code pc = .ok (.ireturn, 1)) : W p l e room_1 s m #[Value.ref b] below meth c H [] 600000 7302250 (lw_Z below #[Value.ref b] s) (F0 m pc ls [.int 1]) := by
  intro T hT X
  obtain ⟨fs, hret, hrun, hended, hW, hframe⟩ := X.leave (v := some (.int 1)) (hlocks := hlocks) (fun h => by rw [hr] at h; cases h)
  have hmeth' : T.vm.method? m = some meth := X.method'
  refine ⟨T.setFrames fs, ?_, .returned (some (.int 1)), hrun, hended, rfl, ⟨_, rfl⟩, hW, hframe⟩
  jvm_step X.here [X.here.top, hx, hb, hdg, hmeth', hr, ret, narrow_b1]
  (try refine ⟨rfl, ?_⟩); (try refine ⟨rfl, ?_⟩)
  first | (intro acts; rw [hret _ acts rfl rfl rfl]) | rw [hret _ _ rfl rfl rfl]
  exact Steps.refl _
/-- what holds at the law's entry: the machine, the code, the tables' words (any of lw_tbl by 'hts w (by decide +kernel)'), the script of L ints xs at the cell b, what the Statement gives of the start (any of its parts by flat_of_before) -/
def lw_At (p : Program) (s : State) (m : MethodId) (meth : Method) (c : Code) (b L : Nat) (xs : Nat → Int32) : Prop :=
  p.tables.exec = Jvm.exec ∧ c.code = code ∧ meth.sig.returnType = ret ∧ c.maxLocals = 4 ∧ s.vm.findClass R_law = some m.cls ∧ (∀ w ∈ lw_tbl, w.before #[Value.ref b] s = true) ∧ va_X b L xs s s.heap ∧ b < s.heap.size ∧ meth.locks = false ∧ (Jvm.Cond.and given_1 narrow_1).before #[Value.ref b] s = true
/-- the heap at the law's start -/
def zh0 (L : Nat) (xs : Nat → Int32) : zH := ((0, 0), fun a => if a = 1000000000 then .inr (99, L, fun j => (xs j).toInt) else zjk)
theorem zh0_b {L : Nat} {xs : Nat → Int32} {a : Nat} (h : a ≠ 1000000000) : (zh0 L xs).2 a = zjk := if_neg h
theorem zh0_s {L : Nat} {xs : Nat → Int32} : (zh0 L xs).2 1000000000 = .inr (99, L, fun j => (xs j).toInt) := by simp [zh0]
def zaty (k : Nat) : Option FieldType := match k with
  | 0 => some .byte
  | 1 => some .int
  | 2 => some .long
  | 3 => some .boolean
  | 4 => some (.object RX3)
  | 5 => some (.object RX5)
  | 6 => some (.object RX9)
  | _ => none
theorem zs_cls {s : State} {A : Array Value} (hts : ∀ w ∈ lw_tbl, w.before A s = true) (ci : Nat) : ∃ x : ClassId × (Nat → Nat), ∀ q, vwCl[ci]? = some q → u_Kn s q.1 q.2.1 q.2.2 x.1 x.2 := by
  cases hq : vwCl[ci]? with
  | none => exact ⟨(0, fun _ => 0), fun q h => by cases h⟩
  | some q =>
    obtain ⟨C, T, N⟩ := q
    obtain ⟨ty, g1, -, -, -, -, g6, -⟩ := zCok_in hq
    have hts2 : ∀ w ∈ zW, w.before A s = true := fun w hw => hts w (List.mem_filter.mp hw).1
    obtain ⟨cC, iS, hk⟩ := u_known hts2 g1 (hts2 _ g6)
    exact ⟨(cC, iS), fun q h => by cases h; exact hk⟩
theorem zs_arr {s : State} {A : Array Value} (hts : ∀ w ∈ lw_tbl, w.before A s = true) (hover : va_AO RX3 s ∧ va_AO RX5 s ∧ va_AO RX9 s) (k : Nat) : ∃ cA : ClassId, ∀ ty, zaty k = some ty → ArrOfT s cA ty ∧ va_RA s cA ty := by
  have hts2 : ∀ w ∈ zW, w.before A s = true := fun w hw => hts w (List.mem_filter.mp hw).1
  have pr : ∀ ty : FieldType, (∀ cA, s.vm.findClass ("[" ++ ty.toString) = some cA → va_RA s cA ty) → Cond.arrayClass ty ∈ zW → ∃ cA : ClassId, ArrOfT s cA ty ∧ va_RA s cA ty := by
    intro ty h1 h2
    obtain ⟨cA, kA, comp, hfind, hk, hkind⟩ := Cond.arrayClass_spec (hts2 _ h2)
    exact ⟨cA, fun n z => ⟨fun k h => (by cases h), kA, hk, comp, hkind⟩, h1 cA hfind⟩
  have rf : ∀ C : String, va_AO C s → ∃ cA : ClassId, ArrOfT s cA (.object C) ∧ va_RA s cA (.object C) := by
    intro C h1
    obtain ⟨comp, cA, kA, hcomp, hidx, hkA, hkindA, hnameA⟩ := Cond.arrayOver_spec h1
    exact ⟨cA, fun n z => ⟨fun k h => (by cases h), kA, hkA, comp, hkindA⟩, kA, comp, hkA, hkindA, hcomp, hnameA⟩
  match k with
  | 0 => obtain ⟨cA, h⟩ := pr .byte (fun _ h => h) zAc_byte; exact ⟨cA, fun ty e => by cases e; exact h⟩
  | 1 => obtain ⟨cA, h⟩ := pr .int (fun _ h => h) zAc_int; exact ⟨cA, fun ty e => by cases e; exact h⟩
  | 2 => obtain ⟨cA, h⟩ := pr .long (fun _ h => h) zAc_long; exact ⟨cA, fun ty e => by cases e; exact h⟩
  | 3 => obtain ⟨cA, h⟩ := pr .boolean (fun _ h => h) zAc_boolean; exact ⟨cA, fun ty e => by cases e; exact h⟩
  | 4 => obtain ⟨cA, h⟩ := rf RX3 hover.1; exact ⟨cA, fun ty e => by cases e; exact h⟩
  | 5 => obtain ⟨cA, h⟩ := rf RX5 hover.2.1; exact ⟨cA, fun ty e => by cases e; exact h⟩
  | 6 => obtain ⟨cA, h⟩ := rf RX9 hover.2.2; exact ⟨cA, fun ty e => by cases e; exact h⟩
  | n + 7 => exact ⟨0, fun ty e => by cases e⟩
def ztm (i : Nat) : Term := match zSt[i]? with
  | some q => .string q.1 q.2.1
  | none => .string "" 0
def zfl : List Cond := flatC (Jvm.Cond.and given_1 narrow_1)
theorem zfl_len : ∀ i, i < 6 → zlen.getD i 0 < 2 ^ 31 := by decide +kernel
theorem zfl_ex : ∀ i, i < 6 → Cond.exactly (ztm i) "java/lang/String" ∈ zfl := by decide +kernel
theorem zfl_co : ∀ i, i < 6 → Cond.eq (.field (ztm i) "java/lang/String" "coder" "B") (.int 0) ∈ zfl := by decide +kernel
theorem zfl_ar : ∀ i, i < 6 → Cond.arrayOf (.field (ztm i) "java/lang/String" "value" "[B") .byte ∈ zfl := by decide +kernel
theorem zfl_le : ∀ i, i < 6 → Cond.eq (.length (.field (ztm i) "java/lang/String" "value" "[B")) (.int (Int32.ofNat (zlen.getD i 0))) ∈ zfl := by decide +kernel
theorem zfl_el : ∀ i, i < 6 → ∀ j, j < zlen.getD i 0 → Cond.eq (.elem (.field (ztm i) "java/lang/String" "value" "[B") (.int (Int32.ofNat j))) (.int ((zbI.getD i []).getD j 0)) ∈ zfl := by decide +kernel
theorem zfl_ne : ∀ i, i < 6 → ∀ j, j < 6 → i ≠ j → Cond.not (Cond.eq (ztm i) (ztm j)) ∈ zfl ∨ Cond.not (Cond.eq (ztm j) (ztm i)) ∈ zfl := by decide +kernel
theorem zfl_cs : Cond.eq (.static "java/lang/String" "COMPACT_STRINGS" "Z") (.int 1) ∈ zfl := by decide +kernel
theorem zfl_pf : Cond.isRef (.static "jdk/internal/util/Preconditions" "SIOOBE_FORMATTER" "Ljava/util/function/BiFunction;") ∈ zfl := by decide +kernel
theorem zlw_cs : Cond.laysStatic "java/lang/String" "COMPACT_STRINGS" "Z" ∈ lw_tbl ∧ Cond.initialized "java/lang/String" ∈ lw_tbl ∧ Cond.laysStatic "jdk/internal/util/Preconditions" "SIOOBE_FORMATTER" "Ljava/util/function/BiFunction;" ∈ lw_tbl ∧ Cond.initialized "jdk/internal/util/Preconditions" ∈ lw_tbl := by decide +kernel
theorem zlw_sr : ∀ q ∈ zSt, Cond.stringRef q.1 q.2.1 q.2.2 ∈ lw_tbl := by decide +kernel
theorem zlw_nf : ∀ q ∈ zNF, Cond.fieldLinkNest RX10 q.1 RX3 q.2.1 q.2.2 RX10 ∈ lw_tbl := by decide +kernel
theorem zlw_nm : ∀ q ∈ zNM, Cond.methodLinkNest (zNm q.1) q.2.1 q.2.2 RX10 ∈ lw_tbl := by decide +kernel
theorem zlw_ao : Cond.arrayOver (.object RX3) ∈ lw_tbl ∧ Cond.arrayOver (.object RX5) ∈ lw_tbl ∧ Cond.arrayOver (.object RX9) ∈ lw_tbl := by decide +kernel
/-- the law's start is a start of the abstract machine -/
theorem zstart {p : Program} {s : State} {m : MethodId} {meth : Method} {c : Code} {b L : Nat} {xs : Nat → Int32} (C0 : lw_At p s m meth c b L xs) : ∃ g : zG, gb g = s.heap.size ∧ gx g 0 = b ∧ gL g = L ∧ gX g = xs ∧ zX g mL_law p room_1 s m #[Value.ref b] meth c ∧ zRep g (zh0 L xs) s.heap := by
  obtain ⟨hx, hb, hr, hml, hown, hts, hX, hbl, hlocks, hgv⟩ := C0
  have hs := flat_of_before _ hgv
  have hA : ∀ a : Nat, a < s.heap.size → ¬ (fun q : Nat => s.heap.size ≤ q) a := fun a h => Nat.not_le.mpr h
  obtain ⟨adK, adV, hS, hev⟩ := vk_Sof (A := fun q : Nat => s.heap.size ≤ q) (tm := ztm) (N := 6) (len := zlen) (byt := zbI) zfl_len (fun i hi => hs _ (zfl_ex i hi)) (fun i hi => hs _ (zfl_co i hi)) (fun i hi => hs _ (zfl_ar i hi)) (fun i hi => hs _ (zfl_le i hi)) (fun i hi j hj => hs _ (zfl_el i hi j hj)) (fun i j hi hj hij => (zfl_ne i hi j hj hij).imp (fun z => hs _ z) (fun z => hs _ z)) hA
  have hover : va_AO RX3 s ∧ va_AO RX5 s ∧ va_AO RX9 s := ⟨va_AO.of (hts _ zlw_ao.1), va_AO.of (hts _ zlw_ao.2.1), va_AO.of (hts _ zlw_ao.2.2)⟩
  have hcls := zs_cls hts
  have harr := zs_arr hts hover
  let g : zG := ((fun ci => (Classical.choose (hcls ci)).1, fun ci => (Classical.choose (hcls ci)).2), fun k => Classical.choose (harr k), s.heap.size, fun i => if i = 0 then b else adK (i - 1), adV, L, xs)
  have hK : va_K (gD g) vwCl (zTys g) s := by
    refine ⟨fun ci q hq => Classical.choose_spec (hcls ci) q hq, fun k q hq => ?_⟩
    have hk : k < 7 := (List.getElem?_eq_some_iff.mp hq).1
    have key : zaty k = some q.2 ∧ q.1 = gA g k := by
      match k, hk, hq with
      | 0, _, hq => cases hq; exact ⟨rfl, rfl⟩
      | 1, _, hq => cases hq; exact ⟨rfl, rfl⟩
      | 2, _, hq => cases hq; exact ⟨rfl, rfl⟩
      | 3, _, hq => cases hq; exact ⟨rfl, rfl⟩
      | 4, _, hq => cases hq; exact ⟨rfl, rfl⟩
      | 5, _, hq => cases hq; exact ⟨rfl, rfl⟩
      | 6, _, hq => cases hq; exact ⟨rfl, rfl⟩
    rw [key.2]
    exact Classical.choose_spec (harr k) q.2 key.1
  have hG : zGF g s := by
    refine ⟨hK, ⟨hX, hbl, Nat.le_refl _⟩, hS, fun i q hq => ?_, fun q hq => va_Nw.of rfl (hts _ (zlw_nf q hq)), fun q hq => va_Nw.of rfl (hts _ (zlw_nm q hq)), hover, va_Zof (hts _ zlw_cs.1) (hts _ zlw_cs.2.1) (va_eqi (hs _ zfl_cs)) hA, va_Zqof (hts _ zlw_cs.2.2.1) (hts _ zlw_cs.2.2.2) (hs _ zfl_pf) hA⟩
    have hi : i < 6 := (List.getElem?_eq_some_iff.mp hq).1
    have he := hev i hi
    have ht : ztm i = .string q.1 q.2.1 := by unfold ztm; rw [hq]
    rw [ht] at he
    exact vk_R.of (hts _ (zlw_sr q (List.mem_of_getElem? hq))) he
  refine ⟨g, rfl, rfl, rfl, rfl, ⟨hx, hb, hml, hown, fun w hw => hts w (List.mem_filter.mp hw).1, hr, hlocks, fun q => absurd q (by decide), Nat.le_refl _, Nat.le_refl _, hG⟩, rfl, Nat.zero_lt_succ _, fun a h1 h2 => zh0_b h2, zh0_s, fun a h => absurd h (Nat.not_lt_zero _), fun k q hq => ?_⟩
  exact absurd hq (by simp [zws, zh0])
/-- the claim out of a run of the abstract machine -/
theorem zlaw {p : Program} {e : Env} {s : State} {m : MethodId} {below : List Frame} {meth : Method} {c : Code} (l : Launch) {b L : Nat} {xs : Nat → Int32} (C0 : lw_At p s m meth c b L xs) {h' : zH} (hrun : cl mL_law [vr 1000000000] (zh0 L xs) = some (vi 1, h')) (hc : h'.1.1 ≤ 600000) (hsl : h'.1.2 ≤ 7302250) : W p l e room_1 s m #[Value.ref b] below meth c s.heap [] 0 0 (lw_Z below #[Value.ref b] s) (entryFrame m ([Value.ref b] : List Value).toArray 4) := by
  obtain ⟨g, g1, g2, g3, g4, X, hR⟩ := zstart C0
  obtain ⟨n, hn⟩ := rn_iff.mp hrun
  have hz : zv g (vr 1000000000) = .ref b := by rw [zv_r g (by omega), ← g2]; rfl
  have hle := lv_entry ([vr 1000000000].map (zv g)) (n := 4) (by rw [← zsp_len]; decide)
  have he : ([Value.ref b] : List Value) = [vr 1000000000].map (zv g) := by rw [List.map_cons, hz]; rfl
  have key := zmain g n hn p l e room_1 s m #[Value.ref b] below meth c (lw_Z below #[Value.ref b] s) 0 0 X (by rw [g1]; rfl) ⟨by show h'.1.1 ≤ 0 + 600000; omega, by show h'.1.2 ≤ 0 + 7302250; omega⟩ (by
    rintro pc LL st ⟨I, ln, d, E⟩
    have hI := (stp_all mL_law I ln pc LL st h' _ E).2
    intro H locs cells slots ls hR1 hS1 hL1 hst hc1 hs1
    obtain ⟨hx, hb, hml, hown, hts, hret, hlk, hini, hfr, hwd, hG⟩ := X
    have hcl : cells ≤ 600000 := by omega
    have hsl2 : slots ≤ 7302250 := by omega
    have hI2 : I = .ireturn ∧ st = [vi 1] ∧ ln = 1 := by
      rcases hI with rfl | rfl | rfl | rfl
      · replace E := zg_inv E
        obtain ⟨hln, E⟩ := E
        refine ⟨rfl, ?_, by simpa using hln⟩
        split at E
        · split at E
          · cases E; rfl
          · split at E
            · cases E; rfl
            · cases E
          · cases E
        · cases E
      · replace E := (zg_inv E).2
        split at E <;> cases E
      · replace E := (zg_inv E).2
        split at E <;> cases E
      · replace E := (zg_inv E).2
        split at E <;> cases E
    obtain ⟨rfl, rfl, rfl⟩ := hI2
    refine va_forget (fun q hq => by have := hS1.2.2 q hq; rw [← g1]; exact this) ?_
    refine W.widen (k := 600000) (n := 7302250) hcl hsl2 ?_
    exact lw_ret hx hb hret hlk d)
  have hent : entryFrame m ([Value.ref b] : List Value).toArray 4 = F0 m 0 ((lg_sl ([vr 1000000000].map (zv g)) ++ List.replicate (4 - (lg_sl ([vr 1000000000].map (zv g))).length) Slot.unset).toArray) [] := by rw [he, lg_entry_eq]
  rw [hent]
  exact key s.heap [] 0 0 _ hR va_S.rf (zent_Lc (as := [vr 1000000000]) (fun v hv => by rw [List.mem_singleton] at hv; subst hv; trivial) (by decide) hle) (fun v hv => by cases hv) rfl rfl
