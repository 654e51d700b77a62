/-! soundness: static and special calls; runs -/
section ZE
variable {g : zG} {M : zMd} {p : Program} {l : Launch} {e : Env} {R : Room} {s : State} {m : MethodId} {args : Array Value} {below : List Frame} {meth : Method} {c : Code} {Q : State → Prop} {c0 s0 : Nat} {pc ln : Nat} {L st : List zV} {h : zH} {pc' : Nat} {L' st' : List zV} {h' : zH}
theorem zs_callS {i : Nat} {Y : zMd} {as : List zV} {r : zV} {h1 : zH} (X : zX g M p R s m args meth c) (hrm : h1.1.1 ≤ c0 + R.cells ∧ h1.1.2 ≤ s0 + R.slots) (hmono : h.1.1 ≤ h1.1.1 ∧ h.1.2 ≤ h1.1.2) (d : ClassFile.decode (mC M) pc = .ok (.invokestatic i, ln)) (E : stp M (.invokestatic i) ln pc L st h = some (.inr (.inr (Y, as, pc', L', st')))) (hY : (∀ v ∈ as, zvo v) → (zsp as).length ≤ mL Y → zMok Y → ∀ l, Met l (mN Y) (zwd Y) (zrm Y (h1.1.1 - h.1.1) (h1.1.2 - h.1.2)) (zPc g as h) (zQc g r h1) (h1.1.1 - h.1.1) (h1.1.2 - h.1.2) (zA g)) (k : zAt g M p l e R s m args below meth c Q c0 s0 pc' L' (zpv r st') h1) : zAt g M p l e R s m args below meth c Q c0 s0 pc L st h := by
  replace E := zg_inv E
  obtain ⟨hln, E⟩ := E
  have hln : ln = 3 := by simpa using hln
  subst hln
  split at E
  · rename_i nb Y' hf
    obtain ⟨hlen, E⟩ := zg_inv E
    have hlen := of_decide_eq_true hlen
    obtain ⟨hgd, E⟩ := zg_inv E
    simp only [Bool.and_eq_true, decide_eq_true_eq] at hgd
    obtain ⟨⟨⟨hg1, hg2⟩, hg3⟩, hg4⟩ := hgd
    cases E
    intro H locs cells slots ls hR hS hL hst hc hs
    obtain ⟨hx, hb, hml, hown, hts, hret, hlk, hini, hfr, hwd, hG⟩ := X
    obtain ⟨q1, q2, q3⟩ := zTS_ok _ (zfind_mem hf)
    dsimp only at q1 q2 q3
    have es : st = st.take (mP Y) ++ st.drop (mP Y) := (List.take_append_drop _ _).symm
    have hst2 : (∀ v ∈ st.take (mP Y), zvo v) ∧ ∀ v ∈ st.drop (mP Y), zvo v := ⟨fun v hv => hst v (List.mem_of_mem_take hv), fun v hv => hst v (List.mem_of_mem_drop hv)⟩
    have hM := hY (fun v hv => hst2.1 v (List.mem_reverse.mp hv)) hg4 q1 l
    obtain ⟨m1, m2, m3, m4, m5, m6⟩ := q1
    have hstk : st.map (zv g) = (((st.take (mP Y)).reverse.map (zv g))).reverse ++ (st.drop (mP Y)).map (zv g) := by
      conv => lhs; rw [es]
      rw [List.map_append, ← List.map_reverse, List.reverse_reverse]
    have hpre : PreS s H (zPc g (st.take (mP Y)).reverse h) ((st.take (mP Y)).reverse.map (zv g)) := ⟨zPc.blind, fun U hU hW => ⟨rfl, hG.warm hW hS hU, by rw [hU]; exact hR⟩⟩
    have hn : ((st.take (mP Y)).reverse.map (zv g)).length = mP Y := by rw [List.length_map, List.length_reverse, List.length_take]; omega
    have hrm2 : (zrm Y (h1.1.1 - h.1.1) (h1.1.2 - h.1.2)).frames + 1 ≤ R.frames ∧ 8 + (mL Y + 11) + (zrm Y (h1.1.1 - h.1.1) (h1.1.2 - h.1.2)).locals ≤ R.locals := by
      show mF Y + 1 ≤ R.frames ∧ 8 + (mL Y + 11) + mW Y ≤ R.locals
      omega
    rcases q3 with ⟨-, q3⟩ | ⟨-, q3⟩
    · refine zrunW (M := M) (L := L) (c0 := c0) (s0 := s0) (rest := st.drop (mP Y)) (va_runS (cc := mC M) (nL := mL M) (Ts := zW) (own := zNm (mO M)) (index := i) (y := mN Y) (bytes := mC Y) (maxL := mL Y) (ret := mR Y) (n := mP Y) (As := (st.take (mP Y)).reverse.map (zv g)) (rest := (st.drop (mP Y)).map (zv g)) ⟨hx, hb, hml, hown, hts⟩ hM ⟨callB_of (mP Y) hts (zGood (zwd_in m4)) rfl rfl rfl (hts _ m5) (hts _ q3) m6 hrm2, hts _ q2⟩ hpre rfl hn hL.1.1 hstk (lv_room (zrm8_ok hg3)) d ?_) hS hL hst2.2 ?_ ?_ k
      · omega
      · omega
      · omega
    · have hN := hG.2.2.2.2.2.1 _ q3
      refine zrunW (M := M) (L := L) (c0 := c0) (s0 := s0) (rest := st.drop (mP Y)) (va_runSN (cc := mC M) (nL := mL M) (Ts := zW) (own := zNm (mO M)) (host := RX10) (index := i) (y := mN Y) (bytes := mC Y) (maxL := mL Y) (ret := mR Y) (n := mP Y) (As := (st.take (mP Y)).reverse.map (zv g)) (rest := (st.drop (mP Y)).map (zv g)) ⟨hx, hb, hml, hown, hts⟩ hM ⟨va_cnB (mP Y) hts (zGood (zwd_in m4)) rfl rfl rfl hN (hts _ m5) m6 hrm2, hts _ q2, trivial⟩ hpre rfl hn hL.1.1 hstk (lv_room (zrm8_ok hg3)) d ?_) hS hL hst2.2 ?_ ?_ k
      · omega
      · omega
      · omega
  · split at E
    · obtain ⟨x, y, rs, -, E⟩ := ar2_inv E
      obtain ⟨-, E⟩ := zg_inv E
      cases E
    · obtain ⟨u, -, E⟩ := od_inv E
      split at E
      · obtain ⟨y, -, E⟩ := od_inv E
        obtain ⟨-, E⟩ := zg_inv E
        cases E
      · cases E
theorem zs_callI {i : Nat} {Y : zMd} {as : List zV} {r : zV} {h1 : zH} (X : zX g M p R s m args meth c) (hrm : h1.1.1 ≤ c0 + R.cells ∧ h1.1.2 ≤ s0 + R.slots) (hmono : h.1.1 ≤ h1.1.1 ∧ h.1.2 ≤ h1.1.2) (d : ClassFile.decode (mC M) pc = .ok (.invokespecial i, ln)) (E : stp M (.invokespecial i) ln pc L st h = some (.inr (.inr (Y, as, pc', L', st')))) (hY : (∀ v ∈ as, zvo v) → (zsp as).length ≤ mL Y → zMok Y → ∀ l, Met l (mN Y) (zwd Y) (zrm Y (h1.1.1 - h.1.1) (h1.1.2 - h.1.2)) (zPc g as h) (zQc g r h1) (h1.1.1 - h.1.1) (h1.1.2 - h.1.2) (zA g)) (k : zAt g M p l e R s m args below meth c Q c0 s0 pc' L' (zpv r st') h1) : zAt g M p l e R s m args below meth c Q c0 s0 pc L st h := by
  replace E := zg_inv E
  obtain ⟨hln, E⟩ := E
  have hln : ln = 3 := by simpa using hln
  subst hln
  split at E
  · rename_i nb Y' hf
    obtain ⟨-, E⟩ := zg_inv E
    obtain ⟨a, rs, hdr, E⟩ := ta1_inv E
    obtain ⟨hn0, E⟩ := zg_inv E
    have hn0 : a ≠ 0 := of_decide_eq_true hn0
    obtain ⟨hgd, E⟩ := zg_inv E
    simp only [Bool.and_eq_true, decide_eq_true_eq] at hgd
    obtain ⟨⟨⟨hg1, hg2⟩, hg3⟩, hg4⟩ := hgd
    cases E
    obtain ⟨es, es2, es3⟩ := st_split hdr
    intro H locs cells slots ls hR hS hL hst hc hs
    obtain ⟨hx, hb, hml, hown, hts, hret, hlk, hini, hfr, hwd, hG⟩ := X
    obtain ⟨q1, q2, q3, q4, q5⟩ := zTI_ok _ (zfind_mem hf)
    dsimp only at q1 q2 q3 q4 q5
    have hst2 : (∀ v ∈ st.take (mP Y), zvo v) ∧ ∀ v ∈ rs, zvo v := by
      rw [es] at hst
      exact ⟨fun v hv => hst v (List.mem_append_left _ hv), fun v hv => hst v (List.mem_append_right _ (List.mem_cons_of_mem _ hv))⟩
    have hM := hY (fac trivial (fun v hv => hst2.1 v (List.mem_reverse.mp hv))) hg4 q1 l
    obtain ⟨m1, m2, m3, m4, m5, m6⟩ := q1
    rw [es2] at k
    rw [es2] at hg3
    have hstk : st.map (zv g) = (((st.take (mP Y)).reverse.map (zv g))).reverse ++ Value.ref (zf g a) :: rs.map (zv g) := by
      conv => lhs; rw [es]
      rw [List.map_append, List.map_cons, zv_r g hn0, ← List.map_reverse, List.reverse_reverse]
    have hpre : PreS s H (zPc g (vr a :: (st.take (mP Y)).reverse) h) (Value.ref (zf g a) :: (st.take (mP Y)).reverse.map (zv g)) := ⟨zPc.blind, fun U hU hW => ⟨by rw [List.map_cons, zv_r g hn0], hG.warm hW hS hU, by rw [hU]; exact hR⟩⟩
    have hn : ((st.take (mP Y)).reverse.map (zv g)).length = mP Y := by rw [List.length_map, List.length_reverse]; exact es3
    have hrm2 : (zrm Y (h1.1.1 - h.1.1) (h1.1.2 - h.1.2)).frames + 1 ≤ R.frames ∧ 8 + (mL Y + 11) + (zrm Y (h1.1.1 - h.1.1) (h1.1.2 - h.1.2)).locals ≤ R.locals := by
      show mF Y + 1 ≤ R.frames ∧ 8 + (mL Y + 11) + mW Y ≤ R.locals
      omega
    have hwY : zwd Y = Cond.code (mN Y) (mC Y) (mL Y) none :: zW := by unfold zwd; rw [q2]
    rcases q5 with ⟨-, q5⟩ | ⟨-, q5⟩
    · refine zrunW (M := M) (L := L) (c0 := c0) (s0 := s0) (rest := rs) (va_runI (cc := mC M) (nL := mL M) (Ts := zW) (own := zNm (mO M)) (index := i) (y := mN Y) (bytes := mC Y) (maxL := mL Y) (n := mP Y) (b := zf g a) (As := (st.take (mP Y)).reverse.map (zv g)) (rest := rs.map (zv g)) ⟨hx, hb, hml, hown, hts⟩ hM ⟨callB_of (mP Y) hts (zGood (zwd_in m4)) hwY rfl rfl (hts _ m5) (hts _ q5) m6 hrm2, q3, hts _ q4⟩ hpre rfl hn hL.1.1 hstk (lv_room (zrm8_ok hg3)) d ?_) hS hL hst2.2 ?_ ?_ k
      · omega
      · omega
      · omega
    · have hN := hG.2.2.2.2.2.1 _ q5
      refine zrunW (M := M) (L := L) (c0 := c0) (s0 := s0) (rest := rs) (va_runIN (cc := mC M) (nL := mL M) (Ts := zW) (own := zNm (mO M)) (host := RX10) (index := i) (y := mN Y) (bytes := mC Y) (maxL := mL Y) (n := mP Y) (b := zf g a) (As := (st.take (mP Y)).reverse.map (zv g)) (rest := rs.map (zv g)) ⟨hx, hb, hml, hown, hts⟩ hM ⟨va_cnB (mP Y) hts (zGood (zwd_in m4)) hwY rfl rfl hN (hts _ m5) m6 hrm2, q3, hts _ q4⟩ hpre rfl hn hL.1.1 hstk (lv_room (zrm8_ok hg3)) d ?_) hS hL hst2.2 ?_ ?_ k
      · omega
      · omega
      · omega
  · obtain ⟨u, -, E⟩ := od_inv E
    obtain ⟨a, rs, -, E⟩ := ta1_inv E
    obtain ⟨-, E⟩ := zg_inv E
    cases E
theorem stp_go {I : ClassFile.Instr} (X : zX g M p R s m args meth c) (hz : s.heap.size = gb g + c0) (hrm : h'.1.1 ≤ c0 + R.cells ∧ h'.1.2 ≤ s0 + R.slots) (d : ClassFile.decode (mC M) pc = .ok (I, ln)) (E : stp M I ln pc L st h = some (.inl (pc', L', st', h'))) (k : zAt g M p l e R s m args below meth c Q c0 s0 pc' L' st' h') : zAt g M p l e R s m args below meth c Q c0 s0 pc L st h := by
  cases I with
  | aconst_null => exact zs_null X d E k
  | putfield => exact zs_putfield X hz d E k
  | iastore => exact zs_iastore X hz d E k
  | bastore => exact zs_bastore X hz d E k
  | lastore => exact zs_lastore X hz d E k
  | aastore => exact zs_aastore X hz d E k
  | newarray => exact zs_newarray X hrm d E k
  | anewarray => exact zs_anewarray X hrm d E k
  | new => exact zs_new X hrm d E k
  | invokestatic => exact zs_static X hz hrm d E k
  | invokespecial => exact zs_special X d E k
  | invokevirtual => exact zs_virtual X hrm d E k
  | iadd => exact zs_iadd X d E k
  | isub => exact zs_isub X d E k
  | imul => exact zs_imul X d E k
  | iand => exact zs_iand X d E k
  | ior => exact zs_ior X d E k
  | idiv => exact zs_idiv X d E k
  | irem => exact zs_irem X d E k
  | ishl => exact zs_ishl X d E k
  | ishr => exact zs_ishr X d E k
  | iushr => exact zs_iushr X d E k
  | ladd => exact zs_ladd X d E k
  | lsub => exact zs_lsub X d E k
  | lmul => exact zs_lmul X d E k
  | land => exact zs_land X d E k
  | lor => exact zs_lor X d E k
  | ldiv => exact zs_ldiv X d E k
  | lrem => exact zs_lrem X d E k
  | lshl => exact zs_lshl X d E k
  | lushr => exact zs_lushr X d E k
  | lcmp => exact zs_lcmp X d E k
  | i2l => exact zs_i2l X d E k
  | l2i => exact zs_l2i X d E k
  | i2b => exact zs_i2b X d E k
  | iconst => exact zs_iconst X d E k
  | bipush => exact zs_bipush X d E k
  | sipush => exact zs_sipush X d E k
  | lconst => exact zs_lconst X d E k
  | ldc_w => exact zs_ldc_w X d E k
  | ldc2_w => exact zs_ldc2_w X d E k
  | iload => exact zs_iload X d E k
  | iload_n => exact zs_iload_n X d E k
  | aload => exact zs_aload X d E k
  | aload_n => exact zs_aload_n X d E k
  | lload => exact zs_lload X d E k
  | lload_n => exact zs_lload_n X d E k
  | istore => exact zs_istore X d E k
  | istore_n => exact zs_istore_n X d E k
  | astore => exact zs_astore X d E k
  | astore_n => exact zs_astore_n X d E k
  | lstore => exact zs_lstore X d E k
  | lstore_n => exact zs_lstore_n X d E k
  | iinc => exact zs_iinc X d E k
  | dup => exact zs_dup X d E k
  | pop => exact zs_pop X d E k
  | dup2 => exact zs_dup2 X d E k
  | goto => exact zs_goto X d E k
  | ifCond => exact zs_ifCond X d E k
  | if_icmp => exact zs_if_icmp X d E k
  | ifnonnull => exact zs_ifnonnull X d E k
  | tableswitch => exact zs_tableswitch X d E k
  | lookupswitch => exact zs_lookupswitch X d E k
  | getfield => exact zs_getfield X d E k
  | arraylength => exact zs_arraylength X d E k
  | iaload => exact zs_iaload X d E k
  | baload => exact zs_baload X d E k
  | laload => exact zs_laload X d E k
  | aaload => exact zs_aaload X d E k
  | ldc => exact zs_ldc X d E k
  | _ => first | (cases E; done) | (replace E := (zg_inv E).2; split at E <;> first | cases E | (split at E <;> first | cases E | (split at E <;> cases E)))
end ZE
theorem zmain (g : zG) : ∀ (n : Nat) {M : zMd} {pc : Nat} {L st : List zV} {h h' : zH} {r : zV}, rnF n M pc L st h = some (r, h') → zR g M pc L st h r h' := by
  intro n
  induction n with
  | zero => intro M pc L st h h' r e; simp [rnF] at e
  | succ n ih =>
    intro M pc L st h h' r e
    have hmono := rnF_mono2 e
    rw [rnF] at e
    cases hd : ClassFile.decode (mC M) pc with
    | error x => rw [hd] at e; cases e
    | ok x =>
      obtain ⟨I, ln⟩ := x
      rw [hd] at e
      simp only at e
      have hall := stp_all M I ln pc L st h
      intro p l en R s m args below meth c Q c0 s0 X hz hrm hend
      cases hs : stp M I ln pc L st h with
      | none => rw [hs] at e; cases e
      | some y =>
        have hy := hall y hs
        rw [hs] at e
        match y, e, hy with
        | .inl (pc', L', st', h1), e, hy =>
          have hm1 := rnF_mono2 e
          exact stp_go X hz (by omega) hd hs (ih e p l en R s m args below meth c Q c0 s0 X hz hrm hend)
        | .inr (.inl (r', h1)), e, hy =>
          cases e
          have hh : h' = h := hy.1
          subst hh
          exact hend pc L st ⟨I, ln, hd, hs⟩
        | .inr (.inr (Y, as, pc', L', st')), e, hy =>
          simp only at e
          cases hc : rnF n Y 0 (zent as (mL Y)) [] h with
          | none => rw [hc] at e; cases e
          | some w =>
            obtain ⟨v, h1⟩ := w
            rw [hc] at e
            have hm1 := rnF_mono2 hc
            have hm2 := rnF_mono2 e
            have hY := fun (ho : ∀ v ∈ as, zvo v) (hl : (zsp as).length ≤ mL Y) (hM : zMok Y) => zMet (g := g) hM ho hl hm1 (ih hc)
            have k := ih e p l en R s m args below meth c Q c0 s0 X hz hrm hend
            rcases hy with ⟨i, rfl⟩ | ⟨i, rfl⟩ | ⟨i, rfl⟩
            · exact zs_callV X (by omega) hm1 hd hs hY k
            · exact zs_callS X (by omega) hm1 hd hs hY k
            · exact zs_callI X (by omega) hm1 hd hs hY k
