/-! what a step can come to; a call's soundness -/
def zPall (I : ClassFile.Instr) (h : zH) (y : (Nat × List zV × List zV × zH) ⊕ (zV × zH) ⊕ (zMd × List zV × Nat × List zV × List zV)) : Prop := match y with
  | .inl (_, _, _, h1) => h.1.1 ≤ h1.1.1 ∧ h.1.2 ≤ h1.1.2
  | .inr (.inl (_, h1)) => h1 = h ∧ (I = .ireturn ∨ I = .lreturn ∨ I = .areturn ∨ I = .return_)
  | .inr (.inr _) => (∃ i, I = .invokevirtual i) ∨ (∃ i, I = .invokestatic i) ∨ ∃ i, I = .invokespecial i
def zAll (I : ClassFile.Instr) (h : zH) (o : zO) : Prop := ∀ y, o = some y → zPall I h y
section ZALL
variable {I : ClassFile.Instr} {h : zH}
theorem za_none : zAll I h none := fun _ e => by cases e
theorem za_go {a : Nat} {b d : List zV} {h1 : zH} (q : h.1.1 ≤ h1.1.1 ∧ h.1.2 ≤ h1.1.2) : zAll I h (zgo a b d h1) := fun _ e => by cases e; exact q
theorem za_zg {b : Bool} {x : zO} (k : zAll I h x) : zAll I h (zg b x) := fun y e => k y (zg_inv e).2
theorem za_zj {pc : Nat} {off : Int} {L st : List zV} : zAll I h (zj pc off L st h) := za_zg (za_go ⟨Nat.le_refl _, Nat.le_refl _⟩)
theorem za_ar2 {st : List zV} {k : Int → Int → zO} (q : ∀ x y, zAll I h (k x y)) : zAll I h (ar2 st k) := fun y e => by obtain ⟨a, b, r, -, e⟩ := ar2_inv e; exact q a b y e
theorem za_ll2 {st : List zV} {k : Int → Int → zO} (q : ∀ x y, zAll I h (k x y)) : zAll I h (ll2 st k) := fun y e => by obtain ⟨a, b, r, -, e⟩ := ll2_inv e; exact q a b y e
theorem za_li2 {st : List zV} {k : Int → Int → zO} (q : ∀ x y, zAll I h (k x y)) : zAll I h (li2 st k) := fun y e => by obtain ⟨a, b, r, -, e⟩ := li2_inv e; exact q a b y e
theorem za_ta2 {st : List zV} {k : Nat → Int → zO} (q : ∀ x y, zAll I h (k x y)) : zAll I h (ta2 st k) := fun y e => by obtain ⟨a, b, r, -, e⟩ := ta2_inv e; exact q a b y e
theorem za_ti1 {st : List zV} {k : Int → zO} (q : ∀ x, zAll I h (k x)) : zAll I h (ti1 st k) := fun y e => by obtain ⟨a, r, -, e⟩ := ti1_inv e; exact q a y e
theorem za_tl1 {st : List zV} {k : Int → zO} (q : ∀ x, zAll I h (k x)) : zAll I h (tl1 st k) := fun y e => by obtain ⟨a, r, -, e⟩ := tl1_inv e; exact q a y e
theorem za_ta1 {st : List zV} {k : Nat → zO} (q : ∀ x, zAll I h (k x)) : zAll I h (ta1 st k) := fun y e => by obtain ⟨a, r, -, e⟩ := ta1_inv e; exact q a y e
theorem za_ldi {L : List zV} {i : Nat} {k : Int → zO} (q : ∀ x, zAll I h (k x)) : zAll I h (ldi L i k) := fun y e => by obtain ⟨a, -, e⟩ := ldi_inv e; exact q a y e
theorem za_lda {L : List zV} {i : Nat} {k : Nat → zO} (q : ∀ x, zAll I h (k x)) : zAll I h (lda L i k) := fun y e => by obtain ⟨a, -, e⟩ := lda_inv e; exact q a y e
theorem za_ldl {L : List zV} {i : Nat} {k : Int → zO} (q : ∀ x, zAll I h (k x)) : zAll I h (ldl L i k) := fun y e => by obtain ⟨a, -, -, e⟩ := ldl_inv e; exact q a y e
theorem za_od {α : Type} {x : Option α} {k : α → zO} (q : ∀ x, zAll I h (k x)) : zAll I h (od x k) := fun y e => by obtain ⟨a, -, e⟩ := od_inv e; exact q a y e
theorem za_ca {M Y : zMd} {as : List zV} {pc : Nat} {L st : List zV} (q : (∃ i, I = .invokevirtual i) ∨ (∃ i, I = .invokestatic i) ∨ ∃ i, I = .invokespecial i) : zAll I h (zca M Y as pc L st) := za_zg (fun y e => by cases e; exact q)
theorem za_rt {r : zV} (q : I = .ireturn ∨ I = .lreturn ∨ I = .areturn ∨ I = .return_) : zAll I h (some (.inr (.inl (r, h)))) := fun y e => by cases e; exact ⟨rfl, q⟩
end ZALL
theorem stp_all (M : zMd) (I : ClassFile.Instr) (ln pc : Nat) (L st : List zV) (h : zH) : zAll I h (stp M I ln pc L st h) := by
  have rr : h.1.1 ≤ h.1.1 ∧ h.1.2 ≤ h.1.2 := ⟨Nat.le_refl _, Nat.le_refl _⟩
  have pp : ∀ (n : Nat) (c : zC), h.1.1 ≤ (zpu h n c).1.1 ∧ h.1.2 ≤ (zpu h n c).1.2 := fun n c => ⟨Nat.le_succ _, Nat.le_add_right _ _⟩
  cases I <;> first | exact za_none | skip
  all_goals (simp only [stp, p1i, p1a, p1l, s1i, s1a, s1l])
  all_goals
    repeat' first
      | exact za_none
      | exact za_go rr
      | exact za_go (pp _ _)
      | exact za_zj
      | exact za_ca (Or.inl ⟨_, rfl⟩)
      | exact za_ca (Or.inr (Or.inl ⟨_, rfl⟩))
      | exact za_ca (Or.inr (Or.inr ⟨_, rfl⟩))
      | exact za_rt (Or.inl rfl)
      | exact za_rt (Or.inr (Or.inl rfl))
      | exact za_rt (Or.inr (Or.inr (Or.inl rfl)))
      | exact za_rt (Or.inr (Or.inr (Or.inr rfl)))
      | apply za_zg
      | (apply za_ar2; intro _ _)
      | (apply za_ll2; intro _ _)
      | (apply za_li2; intro _ _)
      | (apply za_ta2; intro _ _)
      | (apply za_ti1; intro _)
      | (apply za_tl1; intro _)
      | (apply za_ta1; intro _)
      | (apply za_ldi; intro _)
      | (apply za_lda; intro _)
      | (apply za_ldl; intro _)
      | (apply za_od; intro _)
      | split
theorem rnF_mono2 : ∀ {n : Nat} {M : zMd} {pc : Nat} {L st : List zV} {h h' : zH} {r : zV}, rnF n M pc L st h = some (r, h') → h.1.1 ≤ h'.1.1 ∧ h.1.2 ≤ h'.1.2 := by
  intro n
  induction n with
  | zero => intro M pc L st h h' r e; simp [rnF] at e
  | succ n ih =>
    intro M pc L st h h' r e
    rw [rnF] at e
    cases hd : ClassFile.decode (mC M) pc with
    | error x => rw [hd] at e; cases e
    | ok x =>
      obtain ⟨I, ln⟩ := x
      rw [hd] at e
      simp only at e
      have hall := stp_all M I ln pc L st h
      cases hs : stp M I ln pc L st h with
      | none => rw [hs] at e; cases e
      | some y =>
        have hy := hall y hs
        rw [hs] at e
        match y, e, hy with
        | .inl (pc', L', st', h1), e, hy => have := ih e; have hy : h.1.1 ≤ h1.1.1 ∧ h.1.2 ≤ h1.1.2 := hy; omega
        | .inr (.inl (r', h1)), e, hy =>
          cases e
          have hy : h' = h := hy.1
          rw [hy]
          exact ⟨Nat.le_refl _, Nat.le_refl _⟩
        | .inr (.inr (Y, as, pc', L', st')), e, _ =>
          simp only at e
          cases hc : rnF n Y 0 (zent as (mL Y)) [] h with
          | none => rw [hc] at e; cases e
          | some w =>
            obtain ⟨v, h1⟩ := w
            rw [hc] at e
            have a := ih hc
            have b := ih e
            omega
section ZD
variable {g : zG} {M : zMd} {p : Program} {l : Launch} {e : Env} {R : Room} {s : State} {m : MethodId} {args : Array Value} {below : List Frame} {meth : Method} {c : Code} {Q : State → Prop} {c0 s0 : Nat} {pc ln : Nat} {L st : List zV} {h : zH} {pc' : Nat} {L' st' : List zV} {h' : zH}
theorem zs_ret {I : ClassFile.Instr} (X : zX g M p R s m args meth c) {r : zV} (d : ClassFile.decode (mC M) pc = .ok (I, ln)) (E : stp M I ln pc L st h = some (.inr (.inl (r, h')))) : zAt g M p l e R s m args below meth c (MQ below (zQc g r h') args s (h.1.1 - c0) (h.1.2 - s0) (zA g)) c0 s0 pc L st h := by
  have hq := (stp_all M I ln pc L st h _ E).2
  rcases hq with rfl | rfl | rfl | rfl
  · exact zs_iret X d E
  · exact zs_lret X d E
  · exact zs_aret X d E
  · exact zs_vret X d E
theorem zMet {Y : zMd} (hM : zMok Y) {as : List zV} (ho : ∀ v ∈ as, zvo v) (hl : (zsp as).length ≤ mL Y) {r : zV} (hmono : h.1.1 ≤ h'.1.1 ∧ h.1.2 ≤ h'.1.2) (hR : zR g Y 0 (zent as (mL Y)) [] h r h') (l : Launch) : Met l (mN Y) (zwd Y) (zrm Y (h'.1.1 - h.1.1) (h'.1.2 - h.1.2)) (zPc g as h) (zQc g r h') (h'.1.1 - h.1.1) (h'.1.2 - h.1.2) (zA g) := by
  obtain ⟨m1, m2, m3, m4, m5, m6⟩ := hM
  refine Met.ofW (cc := mC Y) (maxL := mL Y) (ret := mR Y) m1 rfl ?_
  intro p e s m args below meth c s₁ B hml hv
  obtain ⟨rfl, hG, hRep⟩ := hv
  have hx := B.exec
  have hb := B.bytes
  have hr := B.returns
  have hts := atoms_spec (ws := zwd Y) B.pre
  have hown : s.vm.findClass (mN Y).cls = some m.cls := findClass_of_methodNamed B.named
  have hlocks := B.notSynchronized
  have hnm : meth.name = (mN Y).name := (name_of_methodNamed B.named B.method).1
  rw [m2] at hown
  have X : zX g Y p (headSpec (zwd Y) (zrm Y (h'.1.1 - h.1.1) (h'.1.2 - h.1.2))).room s m ((as.map (zv g)).toArray) meth c := ⟨hx, hb, hml, hown, fun w hw => hts w (List.mem_cons_of_mem _ hw), hr, hlocks, fun q => hnm.trans (m3 q), Nat.le_refl _, Nat.le_refl _, hG⟩
  have hlen : (lg_sl (as.map (zv g))).length ≤ mL Y := by rw [← zsp_len]; exact hl
  have hle := lv_entry (as.map (zv g)) hlen
  rw [lg_entry_eq]
  have hsz : s.heap.size = gb g + h.1.1 := hRep.1
  exact hR p l e _ s m _ below meth c _ h.1.1 h.1.2 X hsz (by
    show h'.1.1 ≤ h.1.1 + (h'.1.1 - h.1.1) ∧ h'.1.2 ≤ h.1.2 + (h'.1.2 - h.1.2)
    omega) (fun pc L st ⟨I, ln, d, E⟩ => zs_ret X d E) s.heap [] 0 0 _ hRep va_S.rf (zent_Lc ho hl hle) (fun v hv => by cases hv) rfl rfl
theorem st_split {st : List zV} {n : Nat} {a : Nat} {r : List zV} (h : st.drop n = vr a :: r) : st = (st.take n) ++ vr a :: r ∧ st.drop (n + 1) = r ∧ (st.take n).length = n := by
  have hl : n < st.length := by
    rcases Nat.lt_or_ge n st.length with q | q
    · exact q
    · rw [List.drop_eq_nil_of_le q] at h; cases h
  refine ⟨by rw [← h]; exact (List.take_append_drop n st).symm, ?_, by rw [List.length_take]; omega⟩
  rw [← List.drop_drop, h]
  rfl
theorem zs_callV {i : Nat} {Y : zMd} {as : List zV} {r : zV} {h1 : zH} (X : zX g M p R s m args meth c) (hrm : h1.1.1 ≤ c0 + R.cells ∧ h1.1.2 ≤ s0 + R.slots) (hmono : h.1.1 ≤ h1.1.1 ∧ h.1.2 ≤ h1.1.2) (d : ClassFile.decode (mC M) pc = .ok (.invokevirtual i, ln)) (E : stp M (.invokevirtual i) ln pc L st h = some (.inr (.inr (Y, as, pc', L', st')))) (hY : (∀ v ∈ as, zvo v) → (zsp as).length ≤ mL Y → zMok Y → ∀ l, Met l (mN Y) (zwd Y) (zrm Y (h1.1.1 - h.1.1) (h1.1.2 - h.1.2)) (zPc g as h) (zQc g r h1) (h1.1.1 - h.1.1) (h1.1.2 - h.1.2) (zA g)) (k : zAt g M p l e R s m args below meth c Q c0 s0 pc' L' (zpv r st') h1) : zAt g M p l e R s m args below meth c Q c0 s0 pc L st h := by
  replace E := zg_inv E
  obtain ⟨hln, E⟩ := E
  have hln : ln = 3 := by simpa using hln
  subst hln
  split at E
  · rename_i ci Y' hf
    obtain ⟨-, E⟩ := zg_inv E
    obtain ⟨a, rs, hdr, E⟩ := ta1_inv E
    obtain ⟨his, E⟩ := zg_inv E
    obtain ⟨hgd, E⟩ := zg_inv E
    simp only [Bool.and_eq_true, decide_eq_true_eq] at hgd
    obtain ⟨⟨⟨hg1, hg2⟩, hg3⟩, hg4⟩ := hgd
    cases E
    obtain ⟨es, es2, es3⟩ := st_split hdr
    intro H locs cells slots ls hR hS hL hst hc hs
    obtain ⟨hx, hb, hml, hown, hts, hret, hlk, hini, hfr, hwd, hG⟩ := X
    obtain ⟨q1, ⟨T, N, q2⟩, q3, q4, q5⟩ := zTV_ok _ (zfind_mem hf)
    dsimp only at q1 q2 q3 q4 q5
    obtain ⟨fs, ev⟩ := zis_inv his
    obtain ⟨i0, rfl, hi, hn0, hzf, hw, hco⟩ := hR.ob ev (by have := vwCl_lt q2; omega)
    have hst2 : (∀ v ∈ st.take (mP Y), zvo v) ∧ ∀ v ∈ rs, zvo v := by
      rw [es] at hst
      exact ⟨fun v hv => hst v (List.mem_append_left _ hv), fun v hv => hst v (List.mem_append_right _ (List.mem_cons_of_mem _ hv))⟩
    have hM := hY (fac trivial (fun v hv => hst2.1 v (List.mem_reverse.mp hv))) hg4 q1 l
    obtain ⟨m1, m2, m3, m4, m5, m6⟩ := q1
    rw [es2] at k
    rw [es2] at hg3
    have hrec := va_recv (D := gD g) hG.1 hR.2.2.2.2.2 q2 hw
    have hstk : st.map (zv g) = (((st.take (mP Y)).reverse.map (zv g))).reverse ++ Value.ref (zf g (i0 + 1)) :: rs.map (zv g) := by
      conv => lhs; rw [es]
      rw [List.map_append, List.map_cons, zv_r g hn0, ← List.map_reverse, List.reverse_reverse]
    refine zrunW (M := M) (L := L) (c0 := c0) (s0 := s0) (rest := rs) (va_runV (cc := mC M) (nL := mL M) (Ts := zW) (own := zNm (mO M)) (C := (mN Y).cls) (index := i) (y := mN Y) (bytes := mC Y) (maxL := mL Y) (ret := mR Y) (n := mP Y) (b := zf g (i0 + 1)) (As := (st.take (mP Y)).reverse.map (zv g)) (rest := rs.map (zv g)) ⟨hx, hb, hml, hown, hts⟩ hM (cwV (mP Y) hts (zGood (fun w hw => ?_)) rfl rfl rfl ⟨rfl, m6⟩ ⟨?_, ?_⟩) ⟨zPc.blind, hrec, fun U hU hW => ⟨?_, hG.warm hW hS hU, by rw [hU]; exact hR⟩⟩ rfl ?_ hL.1.1 hstk (lv_room (zrm8_ok hg3)) d ?_) hS hL hst2.2 ?_ ?_ k
    · rcases List.mem_append.mp hw with z | z
      · simp only [List.mem_cons, List.not_mem_nil, or_false] at z
        rcases z with rfl | rfl | rfl | rfl
        · exact q3
        · exact q4
        · exact q5
        · exact m5
      · exact zwd_in m4 w z
    · show mF Y + 1 ≤ R.frames
      omega
    · show 8 + (mL Y + 11) + mW Y ≤ R.locals
      omega
    · show _ = (List.map (zv g) (vr (i0 + 1) :: (st.take (mP Y)).reverse)).toArray
      rw [List.map_cons, zv_r g hn0]
    · rw [List.length_map, List.length_reverse]; exact es3
    · omega
    · omega
    · omega
  · split at E
    · obtain ⟨a, rs, -, E⟩ := ta1_inv E
      obtain ⟨n, -, E⟩ := od_inv E
      obtain ⟨-, E⟩ := zg_inv E
      cases E
    · obtain ⟨u, -, E⟩ := od_inv E
      obtain ⟨a, z, rs, -, E⟩ := ta2_inv E
      obtain ⟨n, -, E⟩ := od_inv E
      obtain ⟨-, E⟩ := zg_inv E
      cases E
end ZD
