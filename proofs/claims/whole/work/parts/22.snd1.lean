theorem zg_inv {b : Bool} {x : zO} {y} (e : zg b x = some y) : b = true ∧ x = some y := by
  cases b with
  | true => exact ⟨rfl, e⟩
  | false => cases e
theorem zgo_inv {a a' : Nat} {b b' d d' : List zV} {f f' : zH} (e : zgo a b d f = some (.inl (a', b', d', f'))) : a = a' ∧ b = b' ∧ d = d' ∧ f = f' := by cases e; exact ⟨rfl, rfl, rfl, rfl⟩
theorem zj_inv {pc pc' : Nat} {off : Int} {b b' d d' : List zV} {f f' : zH} (e : zj pc off b d f = some (.inl (pc', b', d', f'))) : (pc : Int) + off = (pc' : Int) ∧ b = b' ∧ d = d' ∧ f = f' := by
  obtain ⟨h1, h2⟩ := zg_inv e
  obtain ⟨rfl, rfl, rfl, rfl⟩ := zgo_inv h2
  have := of_decide_eq_true h1
  exact ⟨by omega, rfl, rfl, rfl⟩
theorem ar2_inv {st : List zV} {k : Int → Int → zO} {y} (e : ar2 st k = some y) : ∃ a b r, st = vi b :: vi a :: r ∧ k a b = some y := by
  unfold ar2 at e
  split at e
  · exact ⟨_, _, _, rfl, e⟩
  · cases e
theorem ll2_inv {st : List zV} {k : Int → Int → zO} {y} (e : ll2 st k = some y) : ∃ a b r, st = vl b :: vl a :: r ∧ k a b = some y := by
  unfold ll2 at e
  split at e
  · exact ⟨_, _, _, rfl, e⟩
  · cases e
theorem li2_inv {st : List zV} {k : Int → Int → zO} {y} (e : li2 st k = some y) : ∃ a b r, st = vi b :: vl a :: r ∧ k a b = some y := by
  unfold li2 at e
  split at e
  · exact ⟨_, _, _, rfl, e⟩
  · cases e
theorem ti1_inv {st : List zV} {k : Int → zO} {y} (e : ti1 st k = some y) : ∃ a r, st = vi a :: r ∧ k a = some y := by
  unfold ti1 at e
  split at e
  · exact ⟨_, _, rfl, e⟩
  · cases e
theorem tl1_inv {st : List zV} {k : Int → zO} {y} (e : tl1 st k = some y) : ∃ a r, st = vl a :: r ∧ k a = some y := by
  unfold tl1 at e
  split at e
  · exact ⟨_, _, rfl, e⟩
  · cases e
theorem ta1_inv {st : List zV} {k : Nat → zO} {y} (e : ta1 st k = some y) : ∃ a r, st = vr a :: r ∧ k a = some y := by
  unfold ta1 at e
  split at e
  · exact ⟨_, _, rfl, e⟩
  · cases e
theorem ta2_inv {st : List zV} {k : Nat → Int → zO} {y} (e : ta2 st k = some y) : ∃ a z r, st = vi z :: vr a :: r ∧ k a z = some y := by
  unfold ta2 at e
  split at e
  · exact ⟨_, _, _, rfl, e⟩
  · cases e
theorem ldi_inv {L : List zV} {i : Nat} {k : Int → zO} {y} (e : ldi L i k = some y) : ∃ z, L[i]? = some (vi z) ∧ k z = some y := by
  unfold ldi at e
  split at e
  · exact ⟨_, by assumption, e⟩
  · cases e
theorem lda_inv {L : List zV} {i : Nat} {k : Nat → zO} {y} (e : lda L i k = some y) : ∃ z, L[i]? = some (vr z) ∧ k z = some y := by
  unfold lda at e
  split at e
  · exact ⟨_, by assumption, e⟩
  · cases e
theorem ldl_inv {L : List zV} {i : Nat} {k : Int → zO} {y} (e : ldl L i k = some y) : ∃ z, L[i]? = some (vl z) ∧ L[i + 1]? = some vs ∧ k z = some y := by
  unfold ldl at e
  split at e
  · exact ⟨_, by assumption, by assumption, e⟩
  · cases e
theorem od_inv {α : Type} {x : Option α} {k : α → zO} {y} (e : od x k = some y) : ∃ v, x = some v ∧ k v = some y := by
  unfold od at e
  split at e
  · exact ⟨_, rfl, e⟩
  · cases e
theorem fa2 {P : zV → Prop} {a b : zV} {r : List zV} (h : ∀ v ∈ a :: b :: r, P v) : P a ∧ P b ∧ ∀ v ∈ r, P v := ⟨h a List.mem_cons_self, h b (List.mem_cons_of_mem _ List.mem_cons_self), fun v hv => h v (List.mem_cons_of_mem _ (List.mem_cons_of_mem _ hv))⟩
theorem fa1 {P : zV → Prop} {a : zV} {r : List zV} (h : ∀ v ∈ a :: r, P v) : P a ∧ ∀ v ∈ r, P v := ⟨h a List.mem_cons_self, fun v hv => h v (List.mem_cons_of_mem _ hv)⟩
theorem fac {P : zV → Prop} {a : zV} {r : List zV} (h : P a) (h2 : ∀ v ∈ r, P v) : ∀ v ∈ a :: r, P v := List.forall_mem_cons.mpr ⟨h, h2⟩
section ZS
variable {g : zG} {M : zMd} {p : Program} {l : Launch} {e : Env} {R : Room} {s : State} {m : MethodId} {args : Array Value} {below : List Frame} {meth : Method} {c : Code} {Q : State → Prop} {c0 s0 : Nat} {pc ln : Nat} {L st : List zV} {h : zH} {pc' : Nat} {L' st' : List zV} {h' : zH}
theorem zs_iadd (X : zX g M p R s m args meth c) (d : ClassFile.decode (mC M) pc = .ok (.iadd, ln)) (E : stp M (.iadd) ln pc L st h = some (.inl (pc', L', st', h'))) (k : zAt g M p l e R s m args below meth c Q c0 s0 (pc') (L') (st') (h')) : zAt g M p l e R s m args below meth c Q c0 s0 (pc) (L) (st) (h) := by
  replace E := zg_inv E
  obtain ⟨hln, E⟩ := E
  have hln : ln = 1 := by simpa using hln
  subst hln
  obtain ⟨a, b, r, rfl, E⟩ := ar2_inv E
  obtain ⟨rfl, rfl, rfl, rfl⟩ := zgo_inv E
  intro H locs cells slots ls hR hS hL hst hc hs
  obtain ⟨hx, hb, hml, hown, hts, hret, hlk, hini, hfr, hwd, hG⟩ := X
  obtain ⟨hb0, ha0, hr⟩ := fa2 hst
  have k2 := k H locs cells slots ls hR hS hL (fac (i32_32 _) hr) hc hs
  refine lv_iadd hx hb d (x := Int32.ofInt a) (y := Int32.ofInt b) (rest := r.map (zv g)) ?_
  have q : Int32.ofInt a + Int32.ofInt b = Int32.ofInt (i32 (a + b)) := by rw [o_i32]; simp
  rw [q]
  exact k2
theorem zs_isub (X : zX g M p R s m args meth c) (d : ClassFile.decode (mC M) pc = .ok (.isub, ln)) (E : stp M (.isub) ln pc L st h = some (.inl (pc', L', st', h'))) (k : zAt g M p l e R s m args below meth c Q c0 s0 (pc') (L') (st') (h')) : zAt g M p l e R s m args below meth c Q c0 s0 (pc) (L) (st) (h) := by
  replace E := zg_inv E
  obtain ⟨hln, E⟩ := E
  have hln : ln = 1 := by simpa using hln
  subst hln
  obtain ⟨a, b, r, rfl, E⟩ := ar2_inv E
  obtain ⟨rfl, rfl, rfl, rfl⟩ := zgo_inv E
  intro H locs cells slots ls hR hS hL hst hc hs
  obtain ⟨hx, hb, hml, hown, hts, hret, hlk, hini, hfr, hwd, hG⟩ := X
  obtain ⟨hb0, ha0, hr⟩ := fa2 hst
  have k2 := k H locs cells slots ls hR hS hL (fac (i32_32 _) hr) hc hs
  refine lv_isub hx hb d (x := Int32.ofInt a) (y := Int32.ofInt b) (rest := r.map (zv g)) ?_
  have q : Int32.ofInt a - Int32.ofInt b = Int32.ofInt (i32 (a - b)) := by rw [o_i32]; simp
  rw [q]
  exact k2
theorem zs_imul (X : zX g M p R s m args meth c) (d : ClassFile.decode (mC M) pc = .ok (.imul, ln)) (E : stp M (.imul) ln pc L st h = some (.inl (pc', L', st', h'))) (k : zAt g M p l e R s m args below meth c Q c0 s0 (pc') (L') (st') (h')) : zAt g M p l e R s m args below meth c Q c0 s0 (pc) (L) (st) (h) := by
  replace E := zg_inv E
  obtain ⟨hln, E⟩ := E
  have hln : ln = 1 := by simpa using hln
  subst hln
  obtain ⟨a, b, r, rfl, E⟩ := ar2_inv E
  obtain ⟨rfl, rfl, rfl, rfl⟩ := zgo_inv E
  intro H locs cells slots ls hR hS hL hst hc hs
  obtain ⟨hx, hb, hml, hown, hts, hret, hlk, hini, hfr, hwd, hG⟩ := X
  obtain ⟨hb0, ha0, hr⟩ := fa2 hst
  have k2 := k H locs cells slots ls hR hS hL (fac (i32_32 _) hr) hc hs
  refine lv_imul hx hb d (x := Int32.ofInt a) (y := Int32.ofInt b) (rest := r.map (zv g)) ?_
  have q : Int32.ofInt a * Int32.ofInt b = Int32.ofInt (i32 (a * b)) := by rw [o_i32]; simp
  rw [q]
  exact k2
theorem zs_iand (X : zX g M p R s m args meth c) (d : ClassFile.decode (mC M) pc = .ok (.iand, ln)) (E : stp M (.iand) ln pc L st h = some (.inl (pc', L', st', h'))) (k : zAt g M p l e R s m args below meth c Q c0 s0 (pc') (L') (st') (h')) : zAt g M p l e R s m args below meth c Q c0 s0 (pc) (L) (st) (h) := by
  replace E := zg_inv E
  obtain ⟨hln, E⟩ := E
  have hln : ln = 1 := by simpa using hln
  subst hln
  obtain ⟨a, b, r, rfl, E⟩ := ar2_inv E
  obtain ⟨rfl, rfl, rfl, rfl⟩ := zgo_inv E
  intro H locs cells slots ls hR hS hL hst hc hs
  obtain ⟨hx, hb, hml, hown, hts, hret, hlk, hini, hfr, hwd, hG⟩ := X
  obtain ⟨hb0, ha0, hr⟩ := fa2 hst
  have k2 := k H locs cells slots ls hR hS hL (fac (i32_i _) hr) hc hs
  refine lv_iand hx hb d (x := Int32.ofInt a) (y := Int32.ofInt b) (rest := r.map (zv g)) ?_
  have q : Int32.ofInt a &&& Int32.ofInt b = Int32.ofInt (q2 (· &&& ·) a b) := (o32 _).symm
  rw [q]
  exact k2
theorem zs_ior (X : zX g M p R s m args meth c) (d : ClassFile.decode (mC M) pc = .ok (.ior, ln)) (E : stp M (.ior) ln pc L st h = some (.inl (pc', L', st', h'))) (k : zAt g M p l e R s m args below meth c Q c0 s0 (pc') (L') (st') (h')) : zAt g M p l e R s m args below meth c Q c0 s0 (pc) (L) (st) (h) := by
  replace E := zg_inv E
  obtain ⟨hln, E⟩ := E
  have hln : ln = 1 := by simpa using hln
  subst hln
  obtain ⟨a, b, r, rfl, E⟩ := ar2_inv E
  obtain ⟨rfl, rfl, rfl, rfl⟩ := zgo_inv E
  intro H locs cells slots ls hR hS hL hst hc hs
  obtain ⟨hx, hb, hml, hown, hts, hret, hlk, hini, hfr, hwd, hG⟩ := X
  obtain ⟨hb0, ha0, hr⟩ := fa2 hst
  have k2 := k H locs cells slots ls hR hS hL (fac (i32_i _) hr) hc hs
  refine lv_ior hx hb d (x := Int32.ofInt a) (y := Int32.ofInt b) (rest := r.map (zv g)) ?_
  have q : Int32.ofInt a ||| Int32.ofInt b = Int32.ofInt (q2 (· ||| ·) a b) := (o32 _).symm
  rw [q]
  exact k2
theorem zs_idiv (X : zX g M p R s m args meth c) (d : ClassFile.decode (mC M) pc = .ok (.idiv, ln)) (E : stp M (.idiv) ln pc L st h = some (.inl (pc', L', st', h'))) (k : zAt g M p l e R s m args below meth c Q c0 s0 (pc') (L') (st') (h')) : zAt g M p l e R s m args below meth c Q c0 s0 (pc) (L) (st) (h) := by
  replace E := zg_inv E
  obtain ⟨hln, E⟩ := E
  have hln : ln = 1 := by simpa using hln
  subst hln
  obtain ⟨a, b, r, rfl, E⟩ := ar2_inv E
  obtain ⟨hne, E⟩ := zg_inv E
  have hne := of_decide_eq_true hne
  obtain ⟨rfl, rfl, rfl, rfl⟩ := zgo_inv E
  intro H locs cells slots ls hR hS hL hst hc hs
  obtain ⟨hx, hb, hml, hown, hts, hret, hlk, hini, hfr, hwd, hG⟩ := X
  obtain ⟨hb0, ha0, hr⟩ := fa2 hst
  have k2 := k H locs cells slots ls hR hS hL (fac (i32_i _) hr) hc hs
  refine lv_idiv hx hb d (fun q => hne ((o_eq hb0 i32_0).mp q)) (x := Int32.ofInt a) (y := Int32.ofInt b) (rest := r.map (zv g)) ?_
  have q : Int32.ofInt a / Int32.ofInt b = Int32.ofInt (q2 (· / ·) a b) := (o32 _).symm
  rw [q]
  exact k2
theorem zs_irem (X : zX g M p R s m args meth c) (d : ClassFile.decode (mC M) pc = .ok (.irem, ln)) (E : stp M (.irem) ln pc L st h = some (.inl (pc', L', st', h'))) (k : zAt g M p l e R s m args below meth c Q c0 s0 (pc') (L') (st') (h')) : zAt g M p l e R s m args below meth c Q c0 s0 (pc) (L) (st) (h) := by
  replace E := zg_inv E
  obtain ⟨hln, E⟩ := E
  have hln : ln = 1 := by simpa using hln
  subst hln
  obtain ⟨a, b, r, rfl, E⟩ := ar2_inv E
  obtain ⟨hne, E⟩ := zg_inv E
  have hne := of_decide_eq_true hne
  obtain ⟨rfl, rfl, rfl, rfl⟩ := zgo_inv E
  intro H locs cells slots ls hR hS hL hst hc hs
  obtain ⟨hx, hb, hml, hown, hts, hret, hlk, hini, hfr, hwd, hG⟩ := X
  obtain ⟨hb0, ha0, hr⟩ := fa2 hst
  have k2 := k H locs cells slots ls hR hS hL (fac (i32_i _) hr) hc hs
  refine lv_irem hx hb d (fun q => hne ((o_eq hb0 i32_0).mp q)) (x := Int32.ofInt a) (y := Int32.ofInt b) (rest := r.map (zv g)) ?_
  have q : Int32.ofInt a - Int32.ofInt a / Int32.ofInt b * Int32.ofInt b = Int32.ofInt (q2 qrem a b) := (o32 _).symm
  rw [q]
  exact k2
theorem zs_ishl (X : zX g M p R s m args meth c) (d : ClassFile.decode (mC M) pc = .ok (.ishl, ln)) (E : stp M (.ishl) ln pc L st h = some (.inl (pc', L', st', h'))) (k : zAt g M p l e R s m args below meth c Q c0 s0 (pc') (L') (st') (h')) : zAt g M p l e R s m args below meth c Q c0 s0 (pc) (L) (st) (h) := by
  replace E := zg_inv E
  obtain ⟨hln, E⟩ := E
  have hln : ln = 1 := by simpa using hln
  subst hln
  obtain ⟨a, b, r, rfl, E⟩ := ar2_inv E
  obtain ⟨rfl, rfl, rfl, rfl⟩ := zgo_inv E
  intro H locs cells slots ls hR hS hL hst hc hs
  obtain ⟨hx, hb, hml, hown, hts, hret, hlk, hini, hfr, hwd, hG⟩ := X
  obtain ⟨hb0, ha0, hr⟩ := fa2 hst
  have k2 := k H locs cells slots ls hR hS hL (fac (i32_i _) hr) hc hs
  refine lv_ishl hx hb d (x := Int32.ofInt a) (y := Int32.ofInt b) (rest := r.map (zv g)) ?_
  have q : Int32.ofInt a <<< (Int32.ofInt b &&& 31) = Int32.ofInt (q2 qshl a b) := (o32 _).symm
  rw [q]
  exact k2
theorem zs_ishr (X : zX g M p R s m args meth c) (d : ClassFile.decode (mC M) pc = .ok (.ishr, ln)) (E : stp M (.ishr) ln pc L st h = some (.inl (pc', L', st', h'))) (k : zAt g M p l e R s m args below meth c Q c0 s0 (pc') (L') (st') (h')) : zAt g M p l e R s m args below meth c Q c0 s0 (pc) (L) (st) (h) := by
  replace E := zg_inv E
  obtain ⟨hln, E⟩ := E
  have hln : ln = 1 := by simpa using hln
  subst hln
  obtain ⟨a, b, r, rfl, E⟩ := ar2_inv E
  obtain ⟨rfl, rfl, rfl, rfl⟩ := zgo_inv E
  intro H locs cells slots ls hR hS hL hst hc hs
  obtain ⟨hx, hb, hml, hown, hts, hret, hlk, hini, hfr, hwd, hG⟩ := X
  obtain ⟨hb0, ha0, hr⟩ := fa2 hst
  have k2 := k H locs cells slots ls hR hS hL (fac (i32_i _) hr) hc hs
  refine lv_ishr hx hb d (x := Int32.ofInt a) (y := Int32.ofInt b) (rest := r.map (zv g)) ?_
  have q : Int32.ofInt a >>> (Int32.ofInt b &&& 31) = Int32.ofInt (q2 qshr a b) := (o32 _).symm
  rw [q]
  exact k2
theorem zs_iushr (X : zX g M p R s m args meth c) (d : ClassFile.decode (mC M) pc = .ok (.iushr, ln)) (E : stp M (.iushr) ln pc L st h = some (.inl (pc', L', st', h'))) (k : zAt g M p l e R s m args below meth c Q c0 s0 (pc') (L') (st') (h')) : zAt g M p l e R s m args below meth c Q c0 s0 (pc) (L) (st) (h) := by
  replace E := zg_inv E
  obtain ⟨hln, E⟩ := E
  have hln : ln = 1 := by simpa using hln
  subst hln
  obtain ⟨a, b, r, rfl, E⟩ := ar2_inv E
  obtain ⟨rfl, rfl, rfl, rfl⟩ := zgo_inv E
  intro H locs cells slots ls hR hS hL hst hc hs
  obtain ⟨hx, hb, hml, hown, hts, hret, hlk, hini, hfr, hwd, hG⟩ := X
  obtain ⟨hb0, ha0, hr⟩ := fa2 hst
  have k2 := k H locs cells slots ls hR hS hL (fac (i32_i _) hr) hc hs
  refine lv_iushr hx hb d (x := Int32.ofInt a) (y := Int32.ofInt b) (rest := r.map (zv g)) (v := _) rfl ?_
  have q : qushr (Int32.ofInt a) (Int32.ofInt b) = Int32.ofInt (q2 qushr a b) := (o32 _).symm
  show W p l e R s m args below meth c H locs cells slots Q (F0 m (pc + 1) ls (.int (qushr (Int32.ofInt a) (Int32.ofInt b)) :: r.map (zv g)))
  rw [q]
  exact k2
theorem zs_ladd (X : zX g M p R s m args meth c) (d : ClassFile.decode (mC M) pc = .ok (.ladd, ln)) (E : stp M (.ladd) ln pc L st h = some (.inl (pc', L', st', h'))) (k : zAt g M p l e R s m args below meth c Q c0 s0 (pc') (L') (st') (h')) : zAt g M p l e R s m args below meth c Q c0 s0 (pc) (L) (st) (h) := by
  replace E := zg_inv E
  obtain ⟨hln, E⟩ := E
  have hln : ln = 1 := by simpa using hln
  subst hln
  obtain ⟨a, b, r, rfl, E⟩ := ll2_inv E
  obtain ⟨rfl, rfl, rfl, rfl⟩ := zgo_inv E
  intro H locs cells slots ls hR hS hL hst hc hs
  obtain ⟨hx, hb, hml, hown, hts, hret, hlk, hini, hfr, hwd, hG⟩ := X
  obtain ⟨hb0, ha0, hr⟩ := fa2 hst
  have k2 := k H locs cells slots ls hR hS hL (fac (i64_64 _) hr) hc hs
  refine lv_ladd hx hb d (x := Int64.ofInt a) (y := Int64.ofInt b) (rest := r.map (zv g)) ?_
  have q : Int64.ofInt a + Int64.ofInt b = Int64.ofInt (i64 (a + b)) := by rw [o_i64]; simp
  rw [q]
  exact k2
theorem zs_lsub (X : zX g M p R s m args meth c) (d : ClassFile.decode (mC M) pc = .ok (.lsub, ln)) (E : stp M (.lsub) ln pc L st h = some (.inl (pc', L', st', h'))) (k : zAt g M p l e R s m args below meth c Q c0 s0 (pc') (L') (st') (h')) : zAt g M p l e R s m args below meth c Q c0 s0 (pc) (L) (st) (h) := by
  replace E := zg_inv E
  obtain ⟨hln, E⟩ := E
  have hln : ln = 1 := by simpa using hln
  subst hln
  obtain ⟨a, b, r, rfl, E⟩ := ll2_inv E
  obtain ⟨rfl, rfl, rfl, rfl⟩ := zgo_inv E
  intro H locs cells slots ls hR hS hL hst hc hs
  obtain ⟨hx, hb, hml, hown, hts, hret, hlk, hini, hfr, hwd, hG⟩ := X
  obtain ⟨hb0, ha0, hr⟩ := fa2 hst
  have k2 := k H locs cells slots ls hR hS hL (fac (i64_64 _) hr) hc hs
  refine lv_lsub hx hb d (x := Int64.ofInt a) (y := Int64.ofInt b) (rest := r.map (zv g)) ?_
  have q : Int64.ofInt a - Int64.ofInt b = Int64.ofInt (i64 (a - b)) := by rw [o_i64]; simp
  rw [q]
  exact k2
theorem zs_lmul (X : zX g M p R s m args meth c) (d : ClassFile.decode (mC M) pc = .ok (.lmul, ln)) (E : stp M (.lmul) ln pc L st h = some (.inl (pc', L', st', h'))) (k : zAt g M p l e R s m args below meth c Q c0 s0 (pc') (L') (st') (h')) : zAt g M p l e R s m args below meth c Q c0 s0 (pc) (L) (st) (h) := by
  replace E := zg_inv E
  obtain ⟨hln, E⟩ := E
  have hln : ln = 1 := by simpa using hln
  subst hln
  obtain ⟨a, b, r, rfl, E⟩ := ll2_inv E
  obtain ⟨rfl, rfl, rfl, rfl⟩ := zgo_inv E
  intro H locs cells slots ls hR hS hL hst hc hs
  obtain ⟨hx, hb, hml, hown, hts, hret, hlk, hini, hfr, hwd, hG⟩ := X
  obtain ⟨hb0, ha0, hr⟩ := fa2 hst
  have k2 := k H locs cells slots ls hR hS hL (fac (i64_64 _) hr) hc hs
  refine lv_lmul hx hb d (x := Int64.ofInt a) (y := Int64.ofInt b) (rest := r.map (zv g)) ?_
  have q : Int64.ofInt a * Int64.ofInt b = Int64.ofInt (i64 (a * b)) := by rw [o_i64]; simp
  rw [q]
  exact k2
theorem zs_land (X : zX g M p R s m args meth c) (d : ClassFile.decode (mC M) pc = .ok (.land, ln)) (E : stp M (.land) ln pc L st h = some (.inl (pc', L', st', h'))) (k : zAt g M p l e R s m args below meth c Q c0 s0 (pc') (L') (st') (h')) : zAt g M p l e R s m args below meth c Q c0 s0 (pc) (L) (st) (h) := by
  replace E := zg_inv E
  obtain ⟨hln, E⟩ := E
  have hln : ln = 1 := by simpa using hln
  subst hln
  obtain ⟨a, b, r, rfl, E⟩ := ll2_inv E
  obtain ⟨rfl, rfl, rfl, rfl⟩ := zgo_inv E
  intro H locs cells slots ls hR hS hL hst hc hs
  obtain ⟨hx, hb, hml, hown, hts, hret, hlk, hini, hfr, hwd, hG⟩ := X
  obtain ⟨hb0, ha0, hr⟩ := fa2 hst
  have k2 := k H locs cells slots ls hR hS hL (fac (i64_i _) hr) hc hs
  refine lv_land hx hb d (x := Int64.ofInt a) (y := Int64.ofInt b) (rest := r.map (zv g)) ?_
  have q : Int64.ofInt a &&& Int64.ofInt b = Int64.ofInt (q4 (· &&& ·) a b) := (o64 _).symm
  rw [q]
  exact k2
theorem zs_lor (X : zX g M p R s m args meth c) (d : ClassFile.decode (mC M) pc = .ok (.lor, ln)) (E : stp M (.lor) ln pc L st h = some (.inl (pc', L', st', h'))) (k : zAt g M p l e R s m args below meth c Q c0 s0 (pc') (L') (st') (h')) : zAt g M p l e R s m args below meth c Q c0 s0 (pc) (L) (st) (h) := by
  replace E := zg_inv E
  obtain ⟨hln, E⟩ := E
  have hln : ln = 1 := by simpa using hln
  subst hln
  obtain ⟨a, b, r, rfl, E⟩ := ll2_inv E
  obtain ⟨rfl, rfl, rfl, rfl⟩ := zgo_inv E
  intro H locs cells slots ls hR hS hL hst hc hs
  obtain ⟨hx, hb, hml, hown, hts, hret, hlk, hini, hfr, hwd, hG⟩ := X
  obtain ⟨hb0, ha0, hr⟩ := fa2 hst
  have k2 := k H locs cells slots ls hR hS hL (fac (i64_i _) hr) hc hs
  refine lv_lor hx hb d (x := Int64.ofInt a) (y := Int64.ofInt b) (rest := r.map (zv g)) ?_
  have q : Int64.ofInt a ||| Int64.ofInt b = Int64.ofInt (q4 (· ||| ·) a b) := (o64 _).symm
  rw [q]
  exact k2
theorem zs_ldiv (X : zX g M p R s m args meth c) (d : ClassFile.decode (mC M) pc = .ok (.ldiv, ln)) (E : stp M (.ldiv) ln pc L st h = some (.inl (pc', L', st', h'))) (k : zAt g M p l e R s m args below meth c Q c0 s0 (pc') (L') (st') (h')) : zAt g M p l e R s m args below meth c Q c0 s0 (pc) (L) (st) (h) := by
  replace E := zg_inv E
  obtain ⟨hln, E⟩ := E
  have hln : ln = 1 := by simpa using hln
  subst hln
  obtain ⟨a, b, r, rfl, E⟩ := ll2_inv E
  obtain ⟨hne, E⟩ := zg_inv E
  have hne := of_decide_eq_true hne
  obtain ⟨rfl, rfl, rfl, rfl⟩ := zgo_inv E
  intro H locs cells slots ls hR hS hL hst hc hs
  obtain ⟨hx, hb, hml, hown, hts, hret, hlk, hini, hfr, hwd, hG⟩ := X
  obtain ⟨hb0, ha0, hr⟩ := fa2 hst
  have k2 := k H locs cells slots ls hR hS hL (fac (i64_i _) hr) hc hs
  refine lv_ldiv hx hb d (fun q => hne ((o_eq64 hb0 i64_0).mp q)) (x := Int64.ofInt a) (y := Int64.ofInt b) (rest := r.map (zv g)) ?_
  have q : Int64.ofInt a / Int64.ofInt b = Int64.ofInt (q4 (· / ·) a b) := (o64 _).symm
  rw [q]
  exact k2
theorem zs_lrem (X : zX g M p R s m args meth c) (d : ClassFile.decode (mC M) pc = .ok (.lrem, ln)) (E : stp M (.lrem) ln pc L st h = some (.inl (pc', L', st', h'))) (k : zAt g M p l e R s m args below meth c Q c0 s0 (pc') (L') (st') (h')) : zAt g M p l e R s m args below meth c Q c0 s0 (pc) (L) (st) (h) := by
  replace E := zg_inv E
  obtain ⟨hln, E⟩ := E
  have hln : ln = 1 := by simpa using hln
  subst hln
  obtain ⟨a, b, r, rfl, E⟩ := ll2_inv E
  obtain ⟨hne, E⟩ := zg_inv E
  have hne := of_decide_eq_true hne
  obtain ⟨rfl, rfl, rfl, rfl⟩ := zgo_inv E
  intro H locs cells slots ls hR hS hL hst hc hs
  obtain ⟨hx, hb, hml, hown, hts, hret, hlk, hini, hfr, hwd, hG⟩ := X
  obtain ⟨hb0, ha0, hr⟩ := fa2 hst
  have k2 := k H locs cells slots ls hR hS hL (fac (i64_i _) hr) hc hs
  refine lv_lrem hx hb d (fun q => hne ((o_eq64 hb0 i64_0).mp q)) (x := Int64.ofInt a) (y := Int64.ofInt b) (rest := r.map (zv g)) ?_
  have q : Int64.ofInt a - Int64.ofInt a / Int64.ofInt b * Int64.ofInt b = Int64.ofInt (q4 qreml a b) := (o64 _).symm
  rw [q]
  exact k2
theorem zs_lshl (X : zX g M p R s m args meth c) (d : ClassFile.decode (mC M) pc = .ok (.lshl, ln)) (E : stp M (.lshl) ln pc L st h = some (.inl (pc', L', st', h'))) (k : zAt g M p l e R s m args below meth c Q c0 s0 (pc') (L') (st') (h')) : zAt g M p l e R s m args below meth c Q c0 s0 (pc) (L) (st) (h) := by
  replace E := zg_inv E
  obtain ⟨hln, E⟩ := E
  have hln : ln = 1 := by simpa using hln
  subst hln
  obtain ⟨a, b, r, rfl, E⟩ := li2_inv E
  obtain ⟨rfl, rfl, rfl, rfl⟩ := zgo_inv E
  intro H locs cells slots ls hR hS hL hst hc hs
  obtain ⟨hx, hb, hml, hown, hts, hret, hlk, hini, hfr, hwd, hG⟩ := X
  obtain ⟨hb0, ha0, hr⟩ := fa2 hst
  have k2 := k H locs cells slots ls hR hS hL (fac (i64_i _) hr) hc hs
  refine lv_lshl hx hb d (x := Int64.ofInt a) (y := Int32.ofInt b) (rest := r.map (zv g)) (v := Int64.ofInt (q42 qlshl a b)) (o64 _).symm ?_
  exact k2
theorem zs_lushr (X : zX g M p R s m args meth c) (d : ClassFile.decode (mC M) pc = .ok (.lushr, ln)) (E : stp M (.lushr) ln pc L st h = some (.inl (pc', L', st', h'))) (k : zAt g M p l e R s m args below meth c Q c0 s0 (pc') (L') (st') (h')) : zAt g M p l e R s m args below meth c Q c0 s0 (pc) (L) (st) (h) := by
  replace E := zg_inv E
  obtain ⟨hln, E⟩ := E
  have hln : ln = 1 := by simpa using hln
  subst hln
  obtain ⟨a, b, r, rfl, E⟩ := li2_inv E
  obtain ⟨rfl, rfl, rfl, rfl⟩ := zgo_inv E
  intro H locs cells slots ls hR hS hL hst hc hs
  obtain ⟨hx, hb, hml, hown, hts, hret, hlk, hini, hfr, hwd, hG⟩ := X
  obtain ⟨hb0, ha0, hr⟩ := fa2 hst
  have k2 := k H locs cells slots ls hR hS hL (fac (i64_i _) hr) hc hs
  refine lv_lushr hx hb d (x := Int64.ofInt a) (y := Int32.ofInt b) (rest := r.map (zv g)) (v := Int64.ofInt (q42 qlushr a b)) (o64 _).symm ?_
  exact k2
theorem zs_lcmp (X : zX g M p R s m args meth c) (d : ClassFile.decode (mC M) pc = .ok (.lcmp, ln)) (E : stp M (.lcmp) ln pc L st h = some (.inl (pc', L', st', h'))) (k : zAt g M p l e R s m args below meth c Q c0 s0 (pc') (L') (st') (h')) : zAt g M p l e R s m args below meth c Q c0 s0 (pc) (L) (st) (h) := by
  replace E := zg_inv E
  obtain ⟨hln, E⟩ := E
  have hln : ln = 1 := by simpa using hln
  subst hln
  obtain ⟨a, b, r, rfl, E⟩ := ll2_inv E
  obtain ⟨rfl, rfl, rfl, rfl⟩ := zgo_inv E
  intro H locs cells slots ls hR hS hL hst hc hs
  obtain ⟨hx, hb, hml, hown, hts, hret, hlk, hini, hfr, hwd, hG⟩ := X
  obtain ⟨hb0, ha0, hr⟩ := fa2 hst
  have q : lg_cmp (Int64.ofInt a) (Int64.ofInt b) = Int32.ofInt (lcm a b) := by
    unfold lg_cmp lcm
    simp only [gt_iff_lt, o_lt64 hb0 ha0, o_eq64 ha0 hb0]
    split
    · rfl
    · split <;> rfl
  have q2 : i32 (lcm a b) = lcm a b := by
    unfold lcm
    split
    · exact i32_of (by omega) (by omega)
    · split
      · exact i32_of (by omega) (by omega)
      · exact i32_of (by omega) (by omega)
  have k2 := k H locs cells slots ls hR hS hL (fac q2 hr) hc hs
  refine W.lcmp hx hb d (x := Int64.ofInt a) (y := Int64.ofInt b) (rest := r.map (zv g)) ?_
  rw [q]
  exact k2
theorem zs_i2l (X : zX g M p R s m args meth c) (d : ClassFile.decode (mC M) pc = .ok (.i2l, ln)) (E : stp M (.i2l) ln pc L st h = some (.inl (pc', L', st', h'))) (k : zAt g M p l e R s m args below meth c Q c0 s0 (pc') (L') (st') (h')) : zAt g M p l e R s m args below meth c Q c0 s0 (pc) (L) (st) (h) := by
  replace E := zg_inv E
  obtain ⟨hln, E⟩ := E
  have hln : ln = 1 := by simpa using hln
  subst hln
  obtain ⟨a, r, rfl, E⟩ := ti1_inv E
  obtain ⟨rfl, rfl, rfl, rfl⟩ := zgo_inv E
  intro H locs cells slots ls hR hS hL hst hc hs
  obtain ⟨hx, hb, hml, hown, hts, hret, hlk, hini, hfr, hwd, hG⟩ := X
  obtain ⟨ha0, hr⟩ := fa1 hst
  have hrg := i32_rng ha0
  have k2 := k H locs cells slots ls hR hS hL (fac (i64_of (by omega) (by omega)) hr) hc hs
  refine lv_i2l hx hb d (x := Int32.ofInt a) (rest := r.map (zv g)) (v := Int64.ofInt a) ?_ k2
  rw [← Int64.toInt_inj, Int32.toInt_toInt64]
  show i32 a = i64 a
  rw [ha0, i64_of (by omega) (by omega)]
theorem zs_l2i (X : zX g M p R s m args meth c) (d : ClassFile.decode (mC M) pc = .ok (.l2i, ln)) (E : stp M (.l2i) ln pc L st h = some (.inl (pc', L', st', h'))) (k : zAt g M p l e R s m args below meth c Q c0 s0 (pc') (L') (st') (h')) : zAt g M p l e R s m args below meth c Q c0 s0 (pc) (L) (st) (h) := by
  replace E := zg_inv E
  obtain ⟨hln, E⟩ := E
  have hln : ln = 1 := by simpa using hln
  subst hln
  obtain ⟨a, r, rfl, E⟩ := tl1_inv E
  obtain ⟨rfl, rfl, rfl, rfl⟩ := zgo_inv E
  intro H locs cells slots ls hR hS hL hst hc hs
  obtain ⟨hx, hb, hml, hown, hts, hret, hlk, hini, hfr, hwd, hG⟩ := X
  obtain ⟨ha0, hr⟩ := fa1 hst
  have k2 := k H locs cells slots ls hR hS hL (fac (i32_32 _) hr) hc hs
  refine lv_l2i hx hb d (x := Int64.ofInt a) (rest := r.map (zv g)) (v := Int32.ofInt (i32 a)) ?_ k2
  rw [o_i32]
  simp
theorem zs_i2b (X : zX g M p R s m args meth c) (d : ClassFile.decode (mC M) pc = .ok (.i2b, ln)) (E : stp M (.i2b) ln pc L st h = some (.inl (pc', L', st', h'))) (k : zAt g M p l e R s m args below meth c Q c0 s0 (pc') (L') (st') (h')) : zAt g M p l e R s m args below meth c Q c0 s0 (pc) (L) (st) (h) := by
  replace E := zg_inv E
  obtain ⟨hln, E⟩ := E
  have hln : ln = 1 := by simpa using hln
  subst hln
  obtain ⟨a, r, rfl, E⟩ := ti1_inv E
  obtain ⟨rfl, rfl, rfl, rfl⟩ := zgo_inv E
  intro H locs cells slots ls hR hS hL hst hc hs
  obtain ⟨hx, hb, hml, hown, hts, hret, hlk, hini, hfr, hwd, hG⟩ := X
  obtain ⟨ha0, hr⟩ := fa1 hst
  have k2 := k H locs cells slots ls hR hS hL (fac (i32_i _) hr) hc hs
  exact lv_i2b hx hb d (x := Int32.ofInt a) (rest := r.map (zv g)) (v := Int32.ofInt (ib a)) (o32 _).symm k2
theorem zs_null (X : zX g M p R s m args meth c) (d : ClassFile.decode (mC M) pc = .ok (.aconst_null, ln)) (E : stp M (.aconst_null) ln pc L st h = some (.inl (pc', L', st', h'))) (k : zAt g M p l e R s m args below meth c Q c0 s0 (pc') (L') (st') (h')) : zAt g M p l e R s m args below meth c Q c0 s0 (pc) (L) (st) (h) := by
  replace E := zg_inv E
  obtain ⟨hln, E⟩ := E
  have hln : ln = 1 := by simpa using hln
  subst hln
  obtain ⟨rfl, rfl, rfl, rfl⟩ := zgo_inv E
  intro H locs cells slots ls hR hS hL hst hc hs
  obtain ⟨hx, hb, hml, hown, hts, hret, hlk, hini, hfr, hwd, hG⟩ := X
  exact lv_null hx hb d (k H locs cells slots ls hR hS hL (fac trivial hst) hc hs)
theorem zs_iconst {n : Int} (X : zX g M p R s m args meth c) (d : ClassFile.decode (mC M) pc = .ok (.iconst n, ln)) (E : stp M (.iconst n) ln pc L st h = some (.inl (pc', L', st', h'))) (k : zAt g M p l e R s m args below meth c Q c0 s0 (pc') (L') (st') (h')) : zAt g M p l e R s m args below meth c Q c0 s0 (pc) (L) (st) (h) := by
  replace E := zg_inv E
  obtain ⟨hln, E⟩ := E
  simp only [Bool.and_eq_true, beq_iff_eq, decide_eq_true_eq] at hln
  obtain ⟨hl1, hn⟩ := hln
  subst hl1
  obtain ⟨rfl, rfl, rfl, rfl⟩ := zgo_inv E
  intro H locs cells slots ls hR hS hL hst hc hs
  obtain ⟨hx, hb, hml, hown, hts, hret, hlk, hini, hfr, hwd, hG⟩ := X
  exact lv_iconst hx hb d rfl (k H locs cells slots ls hR hS hL (fac hn hst) hc hs)
theorem zs_bipush {n : Int} (X : zX g M p R s m args meth c) (d : ClassFile.decode (mC M) pc = .ok (.bipush n, ln)) (E : stp M (.bipush n) ln pc L st h = some (.inl (pc', L', st', h'))) (k : zAt g M p l e R s m args below meth c Q c0 s0 (pc') (L') (st') (h')) : zAt g M p l e R s m args below meth c Q c0 s0 (pc) (L) (st) (h) := by
  replace E := zg_inv E
  obtain ⟨hln, E⟩ := E
  simp only [Bool.and_eq_true, beq_iff_eq, decide_eq_true_eq] at hln
  obtain ⟨⟨hl1, hn1⟩, hn⟩ := hln
  subst hl1
  obtain ⟨rfl, rfl, rfl, rfl⟩ := zgo_inv E
  intro H locs cells slots ls hR hS hL hst hc hs
  obtain ⟨hx, hb, hml, hown, hts, hret, hlk, hini, hfr, hwd, hG⟩ := X
  exact lv_bipush hx hb d hn1 (k H locs cells slots ls hR hS hL (fac hn hst) hc hs)
theorem zs_sipush {n : Int} (X : zX g M p R s m args meth c) (d : ClassFile.decode (mC M) pc = .ok (.sipush n, ln)) (E : stp M (.sipush n) ln pc L st h = some (.inl (pc', L', st', h'))) (k : zAt g M p l e R s m args below meth c Q c0 s0 (pc') (L') (st') (h')) : zAt g M p l e R s m args below meth c Q c0 s0 (pc) (L) (st) (h) := by
  replace E := zg_inv E
  obtain ⟨hln, E⟩ := E
  simp only [Bool.and_eq_true, beq_iff_eq, decide_eq_true_eq] at hln
  obtain ⟨⟨hl1, hn1⟩, hn⟩ := hln
  subst hl1
  obtain ⟨rfl, rfl, rfl, rfl⟩ := zgo_inv E
  intro H locs cells slots ls hR hS hL hst hc hs
  obtain ⟨hx, hb, hml, hown, hts, hret, hlk, hini, hfr, hwd, hG⟩ := X
  exact lv_sipush hx hb d hn1 (k H locs cells slots ls hR hS hL (fac hn hst) hc hs)
theorem zs_lconst {n : Fin 2} (X : zX g M p R s m args meth c) (d : ClassFile.decode (mC M) pc = .ok (.lconst n, ln)) (E : stp M (.lconst n) ln pc L st h = some (.inl (pc', L', st', h'))) (k : zAt g M p l e R s m args below meth c Q c0 s0 (pc') (L') (st') (h')) : zAt g M p l e R s m args below meth c Q c0 s0 (pc) (L) (st) (h) := by
  replace E := zg_inv E
  obtain ⟨hln, E⟩ := E
  have hln : ln = 1 := by simpa using hln
  subst hln
  obtain ⟨rfl, rfl, rfl, rfl⟩ := zgo_inv E
  intro H locs cells slots ls hR hS hL hst hc hs
  obtain ⟨hx, hb, hml, hown, hts, hret, hlk, hini, hfr, hwd, hG⟩ := X
  have hn : i64 ((n : Nat) : Int) = ((n : Nat) : Int) := i64_of (by omega) (by omega)
  refine lv_lconst hx hb d (v := Int64.ofInt ((n : Nat) : Int)) ?_ (k H locs cells slots ls hR hS hL (fac hn hst) hc hs)
  rw [Int64.ofInt_eq_ofNat]
theorem zs_ldc_w {i : Nat} (X : zX g M p R s m args meth c) (d : ClassFile.decode (mC M) pc = .ok (.ldc_w i, ln)) (E : stp M (.ldc_w i) ln pc L st h = some (.inl (pc', L', st', h'))) (k : zAt g M p l e R s m args below meth c Q c0 s0 (pc') (L') (st') (h')) : zAt g M p l e R s m args below meth c Q c0 s0 (pc) (L) (st) (h) := by
  replace E := zg_inv E
  obtain ⟨hln, E⟩ := E
  have hln : ln = 3 := by simpa using hln
  subst hln
  obtain ⟨v, hf, E⟩ := od_inv E
  obtain ⟨rfl, rfl, rfl, rfl⟩ := zgo_inv E
  intro H locs cells slots ls hR hS hL hst hc hs
  obtain ⟨hx, hb, hml, hown, hts, hret, hlk, hini, hfr, hwd, hG⟩ := X
  have hq := zTC_ok _ (zfind_mem hf)
  exact lv_ldcw hx hb hown (hts _ hq.1) d (k H locs cells slots ls hR hS hL (fac hq.2 hst) hc hs)
theorem zs_ldc2_w {i : Nat} (X : zX g M p R s m args meth c) (d : ClassFile.decode (mC M) pc = .ok (.ldc2_w i, ln)) (E : stp M (.ldc2_w i) ln pc L st h = some (.inl (pc', L', st', h'))) (k : zAt g M p l e R s m args below meth c Q c0 s0 (pc') (L') (st') (h')) : zAt g M p l e R s m args below meth c Q c0 s0 (pc) (L) (st) (h) := by
  replace E := zg_inv E
  obtain ⟨hln, E⟩ := E
  have hln : ln = 3 := by simpa using hln
  subst hln
  obtain ⟨v, hf, E⟩ := od_inv E
  obtain ⟨rfl, rfl, rfl, rfl⟩ := zgo_inv E
  intro H locs cells slots ls hR hS hL hst hc hs
  obtain ⟨hx, hb, hml, hown, hts, hret, hlk, hini, hfr, hwd, hG⟩ := X
  have hq := zTL_ok _ (zfind_mem hf)
  exact lv_ldc2 hx hb hown (hts _ hq.1) d (k H locs cells slots ls hR hS hL (fac hq.2 hst) hc hs)
theorem zs_iload {i : Nat} (X : zX g M p R s m args meth c) (d : ClassFile.decode (mC M) pc = .ok (.iload i, ln)) (E : stp M (.iload i) ln pc L st h = some (.inl (pc', L', st', h'))) (k : zAt g M p l e R s m args below meth c Q c0 s0 (pc') (L') (st') (h')) : zAt g M p l e R s m args below meth c Q c0 s0 (pc) (L) (st) (h) := by
  replace E := zg_inv E
  obtain ⟨hln, E⟩ := E
  have hln : ln = 2 := by simpa using hln
  subst hln
  obtain ⟨z, hz, E⟩ := ldi_inv E
  obtain ⟨rfl, rfl, rfl, rfl⟩ := zgo_inv E
  intro H locs cells slots ls hR hS hL hst hc hs
  obtain ⟨hx, hb, hml, hown, hts, hret, hlk, hini, hfr, hwd, hG⟩ := X
  have hg := hL.get (v := .int (Int32.ofInt z)) (by unfold zcon; rw [hz])
  exact lv_iload hx hb d hg (k H locs cells slots ls hR hS hL (fac (hL.lo hz) hst) hc hs)
theorem zs_aload {i : Nat} (X : zX g M p R s m args meth c) (d : ClassFile.decode (mC M) pc = .ok (.aload i, ln)) (E : stp M (.aload i) ln pc L st h = some (.inl (pc', L', st', h'))) (k : zAt g M p l e R s m args below meth c Q c0 s0 (pc') (L') (st') (h')) : zAt g M p l e R s m args below meth c Q c0 s0 (pc) (L) (st) (h) := by
  replace E := zg_inv E
  obtain ⟨hln, E⟩ := E
  have hln : ln = 2 := by simpa using hln
  subst hln
  obtain ⟨z, hz, E⟩ := lda_inv E
  obtain ⟨rfl, rfl, rfl, rfl⟩ := zgo_inv E
  intro H locs cells slots ls hR hS hL hst hc hs
  obtain ⟨hx, hb, hml, hown, hts, hret, hlk, hini, hfr, hwd, hG⟩ := X
  have hg := hL.get (v := zv g (vr z)) (by unfold zcon; rw [hz])
  have k2 := k H locs cells slots ls hR hS hL (fac trivial hst) hc hs
  by_cases h0 : z = 0
  · subst h0
    exact lv_aloadN hx hb d hg k2
  · rw [zv_r g h0] at hg
    rw [List.map_cons, zv_r g h0] at k2
    exact lv_aload hx hb d hg k2
theorem zs_lload {i : Nat} (X : zX g M p R s m args meth c) (d : ClassFile.decode (mC M) pc = .ok (.lload i, ln)) (E : stp M (.lload i) ln pc L st h = some (.inl (pc', L', st', h'))) (k : zAt g M p l e R s m args below meth c Q c0 s0 (pc') (L') (st') (h')) : zAt g M p l e R s m args below meth c Q c0 s0 (pc) (L) (st) (h) := by
  replace E := zg_inv E
  obtain ⟨hln, E⟩ := E
  have hln : ln = 2 := by simpa using hln
  subst hln
  obtain ⟨z, hz, hz2, E⟩ := ldl_inv E
  obtain ⟨rfl, rfl, rfl, rfl⟩ := zgo_inv E
  intro H locs cells slots ls hR hS hL hst hc hs
  obtain ⟨hx, hb, hml, hown, hts, hret, hlk, hini, hfr, hwd, hG⟩ := X
  have hg := hL.get (i := i) (v := .long (Int64.ofInt z)) (by unfold zcon; simp only [hz, hz2])
  exact lv_lload hx hb d hg (k H locs cells slots ls hR hS hL (fac (hL.lo hz) hst) hc hs)
theorem zs_istore {i : Nat} (X : zX g M p R s m args meth c) (d : ClassFile.decode (mC M) pc = .ok (.istore i, ln)) (E : stp M (.istore i) ln pc L st h = some (.inl (pc', L', st', h'))) (k : zAt g M p l e R s m args below meth c Q c0 s0 (pc') (L') (st') (h')) : zAt g M p l e R s m args below meth c Q c0 s0 (pc) (L) (st) (h) := by
  replace E := zg_inv E
  obtain ⟨hln, E⟩ := E
  simp only [Bool.and_eq_true, beq_iff_eq, decide_eq_true_eq] at hln
  obtain ⟨hl1, hi⟩ := hln
  subst hl1
  obtain ⟨z, r, rfl, E⟩ := ti1_inv E
  obtain ⟨rfl, rfl, rfl, rfl⟩ := zgo_inv E
  intro H locs cells slots ls hR hS hL hst hc hs
  obtain ⟨hx, hb, hml, hown, hts, hret, hlk, hini, hfr, hwd, hG⟩ := X
  obtain ⟨ha0, hr⟩ := fa1 hst
  have hi2 : (i : Nat) < mL M := by rw [← hL.2.1]; exact hi
  exact lv_istore hx hb d hL.1 hi2 rfl (fun ls' hl' => k H locs cells slots ls' hR hS (hL.set (v := vi z) hi2 ha0 rfl hl') hr hc hs)
theorem zs_astore {i : Nat} (X : zX g M p R s m args meth c) (d : ClassFile.decode (mC M) pc = .ok (.astore i, ln)) (E : stp M (.astore i) ln pc L st h = some (.inl (pc', L', st', h'))) (k : zAt g M p l e R s m args below meth c Q c0 s0 (pc') (L') (st') (h')) : zAt g M p l e R s m args below meth c Q c0 s0 (pc) (L) (st) (h) := by
  replace E := zg_inv E
  obtain ⟨hln, E⟩ := E
  simp only [Bool.and_eq_true, beq_iff_eq, decide_eq_true_eq] at hln
  obtain ⟨hl1, hi⟩ := hln
  subst hl1
  obtain ⟨z, r, rfl, E⟩ := ta1_inv E
  obtain ⟨rfl, rfl, rfl, rfl⟩ := zgo_inv E
  intro H locs cells slots ls hR hS hL hst hc hs
  obtain ⟨hx, hb, hml, hown, hts, hret, hlk, hini, hfr, hwd, hG⟩ := X
  obtain ⟨ha0, hr⟩ := fa1 hst
  have hi2 : (i : Nat) < mL M := by rw [← hL.2.1]; exact hi
  have k2 := fun ls' hl' => k H locs cells slots ls' hR hS (hL.set (v := vr z) hi2 trivial rfl hl') hr hc hs
  by_cases h0 : z = 0
  · subst h0
    exact lv_astoreN hx hb d hL.1 hi2 rfl k2
  · rw [zv_r g h0] at k2
    rw [List.map_cons, zv_r g h0]
    exact lv_astore hx hb d hL.1 hi2 rfl k2
theorem zs_lstore {i : Nat} (X : zX g M p R s m args meth c) (d : ClassFile.decode (mC M) pc = .ok (.lstore i, ln)) (E : stp M (.lstore i) ln pc L st h = some (.inl (pc', L', st', h'))) (k : zAt g M p l e R s m args below meth c Q c0 s0 (pc') (L') (st') (h')) : zAt g M p l e R s m args below meth c Q c0 s0 (pc) (L) (st) (h) := by
  replace E := zg_inv E
  obtain ⟨hln, E⟩ := E
  simp only [Bool.and_eq_true, beq_iff_eq, decide_eq_true_eq] at hln
  obtain ⟨hl1, hi⟩ := hln
  subst hl1
  obtain ⟨z, r, rfl, E⟩ := tl1_inv E
  obtain ⟨rfl, rfl, rfl, rfl⟩ := zgo_inv E
  intro H locs cells slots ls hR hS hL hst hc hs
  obtain ⟨hx, hb, hml, hown, hts, hret, hlk, hini, hfr, hwd, hG⟩ := X
  obtain ⟨ha0, hr⟩ := fa1 hst
  have hi2 : (i : Nat) + 1 < mL M := by rw [← hL.2.1]; exact hi
  exact lv_lstore hx hb d hL.1 hi2 rfl (fun ls' hl' => k H locs cells slots ls' hR hS (hL.set2 hi2 ha0 hl') hr hc hs)
theorem zs_iload_n {i : Fin 4} (X : zX g M p R s m args meth c) (d : ClassFile.decode (mC M) pc = .ok (.iload_n i, ln)) (E : stp M (.iload_n i) ln pc L st h = some (.inl (pc', L', st', h'))) (k : zAt g M p l e R s m args below meth c Q c0 s0 (pc') (L') (st') (h')) : zAt g M p l e R s m args below meth c Q c0 s0 (pc) (L) (st) (h) := by
  replace E := zg_inv E
  obtain ⟨hln, E⟩ := E
  have hln : ln = 1 := by simpa using hln
  subst hln
  obtain ⟨z, hz, E⟩ := ldi_inv E
  obtain ⟨rfl, rfl, rfl, rfl⟩ := zgo_inv E
  intro H locs cells slots ls hR hS hL hst hc hs
  obtain ⟨hx, hb, hml, hown, hts, hret, hlk, hini, hfr, hwd, hG⟩ := X
  have hg := hL.get (v := .int (Int32.ofInt z)) (by unfold zcon; rw [hz])
  exact lv_iload_n hx hb d rfl hg (k H locs cells slots ls hR hS hL (fac (hL.lo hz) hst) hc hs)
theorem zs_aload_n {i : Fin 4} (X : zX g M p R s m args meth c) (d : ClassFile.decode (mC M) pc = .ok (.aload_n i, ln)) (E : stp M (.aload_n i) ln pc L st h = some (.inl (pc', L', st', h'))) (k : zAt g M p l e R s m args below meth c Q c0 s0 (pc') (L') (st') (h')) : zAt g M p l e R s m args below meth c Q c0 s0 (pc) (L) (st) (h) := by
  replace E := zg_inv E
  obtain ⟨hln, E⟩ := E
  have hln : ln = 1 := by simpa using hln
  subst hln
  obtain ⟨z, hz, E⟩ := lda_inv E
  obtain ⟨rfl, rfl, rfl, rfl⟩ := zgo_inv E
  intro H locs cells slots ls hR hS hL hst hc hs
  obtain ⟨hx, hb, hml, hown, hts, hret, hlk, hini, hfr, hwd, hG⟩ := X
  have hg := hL.get (v := zv g (vr z)) (by unfold zcon; rw [hz])
  have k2 := k H locs cells slots ls hR hS hL (fac trivial hst) hc hs
  by_cases h0 : z = 0
  · subst h0
    exact lv_aload_nN hx hb d rfl hg k2
  · rw [zv_r g h0] at hg
    rw [List.map_cons, zv_r g h0] at k2
    exact lv_aload_n hx hb d rfl hg k2
theorem zs_lload_n {i : Fin 4} (X : zX g M p R s m args meth c) (d : ClassFile.decode (mC M) pc = .ok (.lload_n i, ln)) (E : stp M (.lload_n i) ln pc L st h = some (.inl (pc', L', st', h'))) (k : zAt g M p l e R s m args below meth c Q c0 s0 (pc') (L') (st') (h')) : zAt g M p l e R s m args below meth c Q c0 s0 (pc) (L) (st) (h) := by
  replace E := zg_inv E
  obtain ⟨hln, E⟩ := E
  have hln : ln = 1 := by simpa using hln
  subst hln
  obtain ⟨z, hz, hz2, E⟩ := ldl_inv E
  obtain ⟨rfl, rfl, rfl, rfl⟩ := zgo_inv E
  intro H locs cells slots ls hR hS hL hst hc hs
  obtain ⟨hx, hb, hml, hown, hts, hret, hlk, hini, hfr, hwd, hG⟩ := X
  have hg := hL.get (i := i) (v := .long (Int64.ofInt z)) (by unfold zcon; simp only [hz, hz2])
  exact lv_lload_n hx hb d rfl hg (k H locs cells slots ls hR hS hL (fac (hL.lo hz) hst) hc hs)
theorem zs_istore_n {i : Fin 4} (X : zX g M p R s m args meth c) (d : ClassFile.decode (mC M) pc = .ok (.istore_n i, ln)) (E : stp M (.istore_n i) ln pc L st h = some (.inl (pc', L', st', h'))) (k : zAt g M p l e R s m args below meth c Q c0 s0 (pc') (L') (st') (h')) : zAt g M p l e R s m args below meth c Q c0 s0 (pc) (L) (st) (h) := by
  replace E := zg_inv E
  obtain ⟨hln, E⟩ := E
  simp only [Bool.and_eq_true, beq_iff_eq, decide_eq_true_eq] at hln
  obtain ⟨hl1, hi⟩ := hln
  subst hl1
  obtain ⟨z, r, rfl, E⟩ := ti1_inv E
  obtain ⟨rfl, rfl, rfl, rfl⟩ := zgo_inv E
  intro H locs cells slots ls hR hS hL hst hc hs
  obtain ⟨hx, hb, hml, hown, hts, hret, hlk, hini, hfr, hwd, hG⟩ := X
  obtain ⟨ha0, hr⟩ := fa1 hst
  have hi2 : (i : Nat) < mL M := by rw [← hL.2.1]; exact hi
  exact lv_istore_n hx hb d rfl hL.1 hi2 rfl (fun ls' hl' => k H locs cells slots ls' hR hS (hL.set (v := vi z) hi2 ha0 rfl hl') hr hc hs)
theorem zs_astore_n {i : Fin 4} (X : zX g M p R s m args meth c) (d : ClassFile.decode (mC M) pc = .ok (.astore_n i, ln)) (E : stp M (.astore_n i) ln pc L st h = some (.inl (pc', L', st', h'))) (k : zAt g M p l e R s m args below meth c Q c0 s0 (pc') (L') (st') (h')) : zAt g M p l e R s m args below meth c Q c0 s0 (pc) (L) (st) (h) := by
  replace E := zg_inv E
  obtain ⟨hln, E⟩ := E
  simp only [Bool.and_eq_true, beq_iff_eq, decide_eq_true_eq] at hln
  obtain ⟨hl1, hi⟩ := hln
  subst hl1
  obtain ⟨z, r, rfl, E⟩ := ta1_inv E
  obtain ⟨rfl, rfl, rfl, rfl⟩ := zgo_inv E
  intro H locs cells slots ls hR hS hL hst hc hs
  obtain ⟨hx, hb, hml, hown, hts, hret, hlk, hini, hfr, hwd, hG⟩ := X
  obtain ⟨ha0, hr⟩ := fa1 hst
  have hi2 : (i : Nat) < mL M := by rw [← hL.2.1]; exact hi
  have k2 := fun ls' hl' => k H locs cells slots ls' hR hS (hL.set (v := vr z) hi2 trivial rfl hl') hr hc hs
  by_cases h0 : z = 0
  · subst h0
    exact lv_astore_nN hx hb d rfl hL.1 hi2 rfl k2
  · rw [zv_r g h0] at k2
    rw [List.map_cons, zv_r g h0]
    exact lv_astore_n hx hb d rfl hL.1 hi2 rfl k2
theorem zs_lstore_n {i : Fin 4} (X : zX g M p R s m args meth c) (d : ClassFile.decode (mC M) pc = .ok (.lstore_n i, ln)) (E : stp M (.lstore_n i) ln pc L st h = some (.inl (pc', L', st', h'))) (k : zAt g M p l e R s m args below meth c Q c0 s0 (pc') (L') (st') (h')) : zAt g M p l e R s m args below meth c Q c0 s0 (pc) (L) (st) (h) := by
  replace E := zg_inv E
  obtain ⟨hln, E⟩ := E
  simp only [Bool.and_eq_true, beq_iff_eq, decide_eq_true_eq] at hln
  obtain ⟨hl1, hi⟩ := hln
  subst hl1
  obtain ⟨z, r, rfl, E⟩ := tl1_inv E
  obtain ⟨rfl, rfl, rfl, rfl⟩ := zgo_inv E
  intro H locs cells slots ls hR hS hL hst hc hs
  obtain ⟨hx, hb, hml, hown, hts, hret, hlk, hini, hfr, hwd, hG⟩ := X
  obtain ⟨ha0, hr⟩ := fa1 hst
  have hi2 : (i : Nat) + 1 < mL M := by rw [← hL.2.1]; exact hi
  exact lv_lstore_n hx hb d rfl hL.1 hi2 rfl (fun ls' hl' => k H locs cells slots ls' hR hS (hL.set2 hi2 ha0 hl') hr hc hs)
theorem zs_iinc {i : Nat} {n : Int} (X : zX g M p R s m args meth c) (d : ClassFile.decode (mC M) pc = .ok (.iinc i n, ln)) (E : stp M (.iinc i n) ln pc L st h = some (.inl (pc', L', st', h'))) (k : zAt g M p l e R s m args below meth c Q c0 s0 (pc') (L') (st') (h')) : zAt g M p l e R s m args below meth c Q c0 s0 (pc) (L) (st) (h) := by
  replace E := zg_inv E
  obtain ⟨hln, E⟩ := E
  simp only [Bool.and_eq_true, beq_iff_eq, decide_eq_true_eq] at hln
  obtain ⟨hl1, hi⟩ := hln
  subst hl1
  obtain ⟨z, hz, E⟩ := ldi_inv E
  obtain ⟨rfl, rfl, rfl, rfl⟩ := zgo_inv E
  intro H locs cells slots ls hR hS hL hst hc hs
  obtain ⟨hx, hb, hml, hown, hts, hret, hlk, hini, hfr, hwd, hG⟩ := X
  have hi2 : (i : Nat) < mL M := by rw [← hL.2.1]; exact hi
  have hm : (i, Value.int (Int32.ofInt z)) ∈ zlv g L := zlv_mem.mpr (by unfold zcon; rw [hz])
  obtain ⟨q, hq⟩ := List.getElem?_of_mem hm
  exact lv_iinc hx hb d hL.1 hq (v := Int32.ofInt (i32 (z + n))) (by rw [o_i32]; simp) hi2 rfl (fun ls' hl' => k H locs cells slots ls' hR hS (hL.set (v := vi (i32 (z + n))) hi2 (i32_32 _) rfl hl') hst hc hs)
theorem zs_dup (X : zX g M p R s m args meth c) (d : ClassFile.decode (mC M) pc = .ok (.dup, ln)) (E : stp M (.dup) ln pc L st h = some (.inl (pc', L', st', h'))) (k : zAt g M p l e R s m args below meth c Q c0 s0 (pc') (L') (st') (h')) : zAt g M p l e R s m args below meth c Q c0 s0 (pc) (L) (st) (h) := by
  replace E := zg_inv E
  obtain ⟨hln, E⟩ := E
  have hln : ln = 1 := by simpa using hln
  subst hln
  match st, E with
  | v :: r, E =>
    obtain ⟨hv, E⟩ := zg_inv E
    have hv : zcat v = 1 := by simpa using hv
    obtain ⟨rfl, rfl, rfl, rfl⟩ := zgo_inv E
    intro H locs cells slots ls hR hS hL hst hc hs
    obtain ⟨hx, hb, hml, hown, hts, hret, hlk, hini, hfr, hwd, hG⟩ := X
    obtain ⟨ha0, hr⟩ := fa1 hst
    exact lv_dup hx hb d (by rw [zv_cat]; exact hv) (k H locs cells slots ls hR hS hL (fac ha0 hst) hc hs)
theorem zs_pop (X : zX g M p R s m args meth c) (d : ClassFile.decode (mC M) pc = .ok (.pop, ln)) (E : stp M (.pop) ln pc L st h = some (.inl (pc', L', st', h'))) (k : zAt g M p l e R s m args below meth c Q c0 s0 (pc') (L') (st') (h')) : zAt g M p l e R s m args below meth c Q c0 s0 (pc) (L) (st) (h) := by
  replace E := zg_inv E
  obtain ⟨hln, E⟩ := E
  have hln : ln = 1 := by simpa using hln
  subst hln
  match st, E with
  | v :: r, E =>
    obtain ⟨hv, E⟩ := zg_inv E
    have hv : zcat v = 1 := by simpa using hv
    obtain ⟨rfl, rfl, rfl, rfl⟩ := zgo_inv E
    intro H locs cells slots ls hR hS hL hst hc hs
    obtain ⟨hx, hb, hml, hown, hts, hret, hlk, hini, hfr, hwd, hG⟩ := X
    obtain ⟨ha0, hr⟩ := fa1 hst
    exact lv_pop hx hb d (by rw [zv_cat]; exact hv) (k H locs cells slots ls hR hS hL hr hc hs)
theorem zs_dup2 (X : zX g M p R s m args meth c) (d : ClassFile.decode (mC M) pc = .ok (.dup2, ln)) (E : stp M (.dup2) ln pc L st h = some (.inl (pc', L', st', h'))) (k : zAt g M p l e R s m args below meth c Q c0 s0 (pc') (L') (st') (h')) : zAt g M p l e R s m args below meth c Q c0 s0 (pc) (L) (st) (h) := by
  replace E := zg_inv E
  obtain ⟨hln, E⟩ := E
  have hln : ln = 1 := by simpa using hln
  subst hln
  match st, E with
  | v :: w :: r, E =>
    obtain ⟨hv, E⟩ := zg_inv E
    simp only [Bool.and_eq_true, beq_iff_eq] at hv
    obtain ⟨rfl, rfl, rfl, rfl⟩ := zgo_inv E
    intro H locs cells slots ls hR hS hL hst hc hs
    obtain ⟨hx, hb, hml, hown, hts, hret, hlk, hini, hfr, hwd, hG⟩ := X
    obtain ⟨ha0, hb0, hr⟩ := fa2 hst
    exact lv_dup2_11 hx hb d (by rw [zv_cat]; exact hv.1) (by rw [zv_cat]; exact hv.2) (k H locs cells slots ls hR hS hL (fac ha0 (fac hb0 hst)) hc hs)
theorem zs_goto {off : Int} (X : zX g M p R s m args meth c) (d : ClassFile.decode (mC M) pc = .ok (.goto off, ln)) (E : stp M (.goto off) ln pc L st h = some (.inl (pc', L', st', h'))) (k : zAt g M p l e R s m args below meth c Q c0 s0 (pc') (L') (st') (h')) : zAt g M p l e R s m args below meth c Q c0 s0 (pc) (L) (st) (h) := by
  replace E := zg_inv E
  obtain ⟨hln, E⟩ := E
  have hln : ln = 3 := by simpa using hln
  subst hln
  obtain ⟨ht, rfl, rfl, rfl⟩ := zj_inv E
  intro H locs cells slots ls hR hS hL hst hc hs
  obtain ⟨hx, hb, hml, hown, hts, hret, hlk, hini, hfr, hwd, hG⟩ := X
  exact lv_goto hx hb d ht (k H locs cells slots ls hR hS hL hst hc hs)
theorem zs_ifCond {cd : ClassFile.Cond} {off : Int} (X : zX g M p R s m args meth c) (d : ClassFile.decode (mC M) pc = .ok (.ifCond cd off, ln)) (E : stp M (.ifCond cd off) ln pc L st h = some (.inl (pc', L', st', h'))) (k : zAt g M p l e R s m args below meth c Q c0 s0 (pc') (L') (st') (h')) : zAt g M p l e R s m args below meth c Q c0 s0 (pc) (L) (st) (h) := by
  replace E := zg_inv E
  obtain ⟨hln, E⟩ := E
  simp only [Bool.and_eq_true, beq_iff_eq, decide_eq_true_eq] at hln
  obtain ⟨hl1, hof⟩ := hln
  subst hl1
  have ht : (pc : Int) + off = (((pc : Int) + off).toNat : Int) := by omega
  obtain ⟨a, r, rfl, E⟩ := ti1_inv E
  intro H locs cells slots ls hR hS hL hst hc hs
  obtain ⟨hx, hb, hml, hown, hts, hret, hlk, hini, hfr, hwd, hG⟩ := X
  obtain ⟨ha0, hr⟩ := fa1 hst
  have kt2 : zcmp cd a 0 = true → W p l e R s m args below meth c H locs cells slots Q (F0 m ((pc : Int) + off).toNat ls (r.map (zv g))) := fun q => by
    rw [q] at E
    obtain ⟨rfl, rfl, rfl, rfl⟩ := zgo_inv E
    exact k H locs cells slots ls hR hS hL hr hc hs
  have kf2 : zcmp cd a 0 = false → W p l e R s m args below meth c H locs cells slots Q (F0 m (pc + 3) ls (r.map (zv g))) := fun q => by
    rw [q] at E
    obtain ⟨rfl, rfl, rfl, rfl⟩ := zgo_inv E
    exact k H locs cells slots ls hR hS hL hr hc hs
  have e1 := o_eq ha0 i32_0
  have e2 := o_lt ha0 i32_0
  have e3 := o_le i32_0 ha0
  have e4 := o_lt i32_0 ha0
  have e5 := o_le ha0 i32_0
  rw [o_0] at e1 e2 e3 e4 e5
  cases cd with
  | eq => exact lv_if_eq hx hb d ht (fun q => kt2 (decide_eq_true (e1.mp q))) (fun q => kf2 (decide_eq_false (fun z => q (e1.mpr z))))
  | ne => exact lv_if_ne hx hb d ht (fun q => kt2 (decide_eq_true (fun z => q (e1.mpr z)))) (fun q => kf2 (decide_eq_false (fun z => z (e1.mp q))))
  | lt => exact lv_if_lt hx hb d ht (fun q => kt2 (decide_eq_true (e2.mp q))) (fun q => kf2 (decide_eq_false (fun z => q (e2.mpr z))))
  | ge => exact lv_if_ge hx hb d ht (fun q => kt2 (decide_eq_true (e3.mp q))) (fun q => kf2 (decide_eq_false (fun z => q (e3.mpr z))))
  | gt => exact lv_if_gt hx hb d ht (fun q => kt2 (decide_eq_true (e4.mp q))) (fun q => kf2 (decide_eq_false (fun z => q (e4.mpr z))))
  | le => exact lv_if_le hx hb d ht (fun q => kt2 (decide_eq_true (e5.mp q))) (fun q => kf2 (decide_eq_false (fun z => q (e5.mpr z))))
theorem zs_if_icmp {cd : ClassFile.Cond} {off : Int} (X : zX g M p R s m args meth c) (d : ClassFile.decode (mC M) pc = .ok (.if_icmp cd off, ln)) (E : stp M (.if_icmp cd off) ln pc L st h = some (.inl (pc', L', st', h'))) (k : zAt g M p l e R s m args below meth c Q c0 s0 (pc') (L') (st') (h')) : zAt g M p l e R s m args below meth c Q c0 s0 (pc) (L) (st) (h) := by
  replace E := zg_inv E
  obtain ⟨hln, E⟩ := E
  simp only [Bool.and_eq_true, beq_iff_eq, decide_eq_true_eq] at hln
  obtain ⟨hl1, hof⟩ := hln
  subst hl1
  have ht : (pc : Int) + off = (((pc : Int) + off).toNat : Int) := by omega
  obtain ⟨a, b, r, rfl, E⟩ := ar2_inv E
  intro H locs cells slots ls hR hS hL hst hc hs
  obtain ⟨hx, hb, hml, hown, hts, hret, hlk, hini, hfr, hwd, hG⟩ := X
  obtain ⟨hb0, ha0, hr⟩ := fa2 hst
  have kt2 : zcmp cd a b = true → W p l e R s m args below meth c H locs cells slots Q (F0 m ((pc : Int) + off).toNat ls (r.map (zv g))) := fun q => by
    rw [q] at E
    obtain ⟨rfl, rfl, rfl, rfl⟩ := zgo_inv E
    exact k H locs cells slots ls hR hS hL hr hc hs
  have kf2 : zcmp cd a b = false → W p l e R s m args below meth c H locs cells slots Q (F0 m (pc + 3) ls (r.map (zv g))) := fun q => by
    rw [q] at E
    obtain ⟨rfl, rfl, rfl, rfl⟩ := zgo_inv E
    exact k H locs cells slots ls hR hS hL hr hc hs
  have e1 := o_eq ha0 hb0
  have e2 := o_lt ha0 hb0
  have e3 := o_le hb0 ha0
  have e4 := o_lt hb0 ha0
  have e5 := o_le ha0 hb0
  cases cd with
  | eq => exact lv_icmp_eq hx hb d ht (fun q => kt2 (decide_eq_true (e1.mp q))) (fun q => kf2 (decide_eq_false (fun z => q (e1.mpr z))))
  | ne => exact lv_icmp_ne hx hb d ht (fun q => kt2 (decide_eq_true (fun z => q (e1.mpr z)))) (fun q => kf2 (decide_eq_false (fun z => z (e1.mp q))))
  | lt => exact lv_icmp_lt hx hb d ht (fun q => kt2 (decide_eq_true (e2.mp q))) (fun q => kf2 (decide_eq_false (fun z => q (e2.mpr z))))
  | ge => exact lv_icmp_ge hx hb d ht (fun q => kt2 (decide_eq_true (e3.mp q))) (fun q => kf2 (decide_eq_false (fun z => q (e3.mpr z))))
  | gt => exact lv_icmp_gt hx hb d ht (fun q => kt2 (decide_eq_true (e4.mp q))) (fun q => kf2 (decide_eq_false (fun z => q (e4.mpr z))))
  | le => exact lv_icmp_le hx hb d ht (fun q => kt2 (decide_eq_true (e5.mp q))) (fun q => kf2 (decide_eq_false (fun z => q (e5.mpr z))))
theorem zs_ifnonnull {off : Int} (X : zX g M p R s m args meth c) (d : ClassFile.decode (mC M) pc = .ok (.ifnonnull off, ln)) (E : stp M (.ifnonnull off) ln pc L st h = some (.inl (pc', L', st', h'))) (k : zAt g M p l e R s m args below meth c Q c0 s0 (pc') (L') (st') (h')) : zAt g M p l e R s m args below meth c Q c0 s0 (pc) (L) (st) (h) := by
  replace E := zg_inv E
  obtain ⟨hln, E⟩ := E
  simp only [Bool.and_eq_true, beq_iff_eq, decide_eq_true_eq] at hln
  obtain ⟨hl1, hof⟩ := hln
  subst hl1
  have ht : (pc : Int) + off = (((pc : Int) + off).toNat : Int) := by omega
  obtain ⟨a, r, rfl, E⟩ := ta1_inv E
  intro H locs cells slots ls hR hS hL hst hc hs
  obtain ⟨hx, hb, hml, hown, hts, hret, hlk, hini, hfr, hwd, hG⟩ := X
  obtain ⟨ha0, hr⟩ := fa1 hst
  by_cases h0 : a = 0
  · subst h0
    rw [if_pos rfl] at E
    obtain ⟨rfl, rfl, rfl, rfl⟩ := zgo_inv E
    exact lv_ifnonnullN hx hb d (k H locs cells slots ls hR hS hL hr hc hs)
  · rw [if_neg h0] at E
    obtain ⟨rfl, rfl, rfl, rfl⟩ := zgo_inv E
    rw [List.map_cons, zv_r g h0]
    exact lv_ifnonnull hx hb d ht (k H locs cells slots ls hR hS hL hr hc hs)
theorem zs_tableswitch {df lo hi : Int} {offs : Array Int} (X : zX g M p R s m args meth c) (d : ClassFile.decode (mC M) pc = .ok (.tableswitch df lo hi offs, ln)) (E : stp M (.tableswitch df lo hi offs) ln pc L st h = some (.inl (pc', L', st', h'))) (k : zAt g M p l e R s m args below meth c Q c0 s0 (pc') (L') (st') (h')) : zAt g M p l e R s m args below meth c Q c0 s0 (pc) (L) (st) (h) := by
  obtain ⟨a, r, rfl, E⟩ := ti1_inv E
  intro H locs cells slots ls hR hS hL hst hc hs
  obtain ⟨hx, hb, hml, hown, hts, hret, hlk, hini, hfr, hwd, hG⟩ := X
  obtain ⟨ha0, hr⟩ := fa1 hst
  have hz : (Int32.ofInt a).toInt = a := ha0
  by_cases hq : a < lo ∨ hi < a
  · rw [if_pos hq] at E
    obtain ⟨ht, rfl, rfl, rfl⟩ := zj_inv E
    exact lv_tableOut hx hb d (by rw [hz]; exact hq) ht (k H locs cells slots ls hR hS hL hr hc hs)
  · rw [if_neg hq] at E
    obtain ⟨off, ho, E⟩ := od_inv E
    obtain ⟨ht, rfl, rfl, rfl⟩ := zj_inv E
    exact lv_tableIn hx hb d (by rw [hz]; exact fun z => hq (Or.inl z)) (by rw [hz]; exact fun z => hq (Or.inr z)) (by rw [hz]; exact ho) ht (k H locs cells slots ls hR hS hL hr hc hs)
theorem zs_lookupswitch {df : Int} {ps : Array (Int × Int)} (X : zX g M p R s m args meth c) (d : ClassFile.decode (mC M) pc = .ok (.lookupswitch df ps, ln)) (E : stp M (.lookupswitch df ps) ln pc L st h = some (.inl (pc', L', st', h'))) (k : zAt g M p l e R s m args below meth c Q c0 s0 (pc') (L') (st') (h')) : zAt g M p l e R s m args below meth c Q c0 s0 (pc) (L) (st) (h) := by
  replace E := zg_inv E
  obtain ⟨hp, E⟩ := E
  obtain ⟨a, r, rfl, E⟩ := ti1_inv E
  intro H locs cells slots ls hR hS hL hst hc hs
  obtain ⟨hx, hb, hml, hown, hts, hret, hlk, hini, hfr, hwd, hG⟩ := X
  obtain ⟨ha0, hr⟩ := fa1 hst
  have hz : (Int32.ofInt a).toInt = a := ha0
  obtain ⟨ht, rfl, rfl, rfl⟩ := zj_inv E
  exact lv_lookup hx hb d hp (by rw [hz]) ht (k H locs cells slots ls hR hS hL hr hc hs)
end ZS
