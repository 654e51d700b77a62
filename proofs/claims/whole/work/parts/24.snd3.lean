/-! soundness of the abstract step: making, the rest of the plain ones -/
theorem zdv_ok {g : zG} {ty : FieldType} {v : zV} (h : zdv ty = some v) : defaultValue ty = zv g v := by
  cases ty <;> simp only [zdv, Option.some.injEq, reduceCtorEq] at h <;> subst h <;> rfl
theorem zdv_vo {ty : FieldType} {v : zV} (h : zdv ty = some v) : zvo v := by
  cases ty <;> simp only [zdv, Option.some.injEq, reduceCtorEq] at h <;> subst h <;> first | exact i32_0 | exact i64_0 | exact trivial
theorem zrm8_ok {g : zG} {st : List zV} (h : zrm8 st = true) : ((st.map (zv g)).map fun v => v.category).sum ≤ 8 := by
  have h := of_decide_eq_true h
  rw [List.map_map]
  have : (fun v => v.category) ∘ zv g = zcat := by funext v; exact zv_cat g v
  rw [this]
  exact h
theorem zsa_ne (j : Nat) : zsa j ≠ 0 := by unfold zsa; omega
theorem zsa_f (g : zG) (j : Nat) : zf g (zsa j) = gx g (j + 1) := by
  unfold zf
  rw [if_neg (by unfold zsa; omega), show zsa j - 1000000000 = j + 1 by unfold zsa; omega]
section ZN
variable {g : zG} {M : zMd} {p : Program} {l : Launch} {e : Env} {R : Room} {s : State} {m : MethodId} {args : Array Value} {below : List Frame} {meth : Method} {c : Code} {Q : State → Prop} {c0 s0 : Nat} {pc ln : Nat} {L st : List zV} {h : zH} {pc' : Nat} {L' st' : List zV} {h' : zH}
/-- behind a making -/
theorem zmake {H H1 : Heap} {locs : List Loc} {y : zC} {sl : Nat} (hR : zRep g h H) (hS : va_S (zA g) s.heap H locs) (hb9 : h.1.1 < 999999999) (hy : zco y) (hz1 : H1.size = H.size + 1) (ho : ∀ q : Nat, q < H.size → H1[q]? = H[q]?) (hn : va_at (gD g) vwCl (gb g + h.1.1, zc g y) H1) : zRep g (zpu h sl y) H1 ∧ va_S (zA g) s.heap H1 locs ∧ zf g (h.1.1 + 1) = H.size := by
  refine ⟨hR.push hb9 hz1 hy ?_, ⟨Nat.le_trans hS.1 (by omega), fun q h1 h2 => (ho q (Nat.lt_of_lt_of_le h1 hS.1)).trans (hS.2.1 q h1 h2), hS.2.2⟩, ?_⟩
  · refine (hR.2.2.2.2.2.kept (fun k q hq => ho q.1 ((hR.2.2.2.2.2 k q hq).lt))).app (fun k q hq => ?_)
    have hz : k < 1 := (List.getElem?_eq_some_iff.mp hq).1
    rw [show k = 0 by omega] at hq
    cases hq
    exact hn
  · have := hR.1
    unfold zf
    rw [if_pos (by omega), this]
    omega
theorem zs_newarray {t : ArrayType} (X : zX g M p R s m args meth c) (hrm : h'.1.1 ≤ c0 + R.cells ∧ h'.1.2 ≤ s0 + R.slots) (d : ClassFile.decode (mC M) pc = .ok (.newarray t, ln)) (E : stp M (.newarray t) ln pc L st h = some (.inl (pc', L', st', h'))) (k : zAt g M p l e R s m args below meth c Q c0 s0 pc' L' st' h') : zAt g M p l e R s m args below meth c Q c0 s0 pc L st h := by
  replace E := zg_inv E
  obtain ⟨hln, E⟩ := E
  have hln : ln = 2 := by simpa using hln
  subst hln
  obtain ⟨n, r, rfl, E⟩ := ti1_inv E
  obtain ⟨hgd, E⟩ := zg_inv E
  simp only [Bool.and_eq_true, decide_eq_true_eq] at hgd
  obtain ⟨⟨hn0, hn1⟩, hb9⟩ := hgd
  obtain ⟨kd, hk, E⟩ := od_inv E
  obtain ⟨rfl, rfl, rfl, rfl⟩ := zgo_inv E
  intro H locs cells slots ls hR hS hL hst hc hs
  obtain ⟨hx, hb, hml, hown, hts, hret, hlk, hini, hfr, hwd, hG⟩ := X
  obtain ⟨hz0, hr⟩ := fa1 hst
  simp only [zpu] at hrm
  have go : ∀ (ty : FieldType) (a0 : (Nat → Int32) ⊕ (Nat → Int64) ⊕ (Nat → UInt32) ⊕ (Nat → UInt64) ⊕ (Nat → Option Nat)), newarray.typeOf t = ty → Cond.arrayClass ty ∈ zW → (zTys g)[kd]? = some (gA g kd, ty) → zc g (.inr (kd, n.toNat, fun _ => 0)) = .inl (gA g kd, n.toNat, a0) → vp_cell (gA g kd) (n.toNat, a0) = arrV (gA g kd) n.toNat (fun _ => defaultValue ty) → n.toNat * componentBytes ty ≤ 536870912 → (va_RA s (gA g kd) ty → s.vm.findClass ("[" ++ ty.toString) = some (gA g kd)) → kd ≤ 6 → W p l e R s m args below meth c H locs cells slots Q (F0 m pc ls (zv g (vi n) :: r.map (zv g))) := by
    intro ty a0 q1 q2 q3 q4 q5 q6 q7 q8
    have hcl := o_clamp hz0 hn0
    refine va_newaK hx hb (atype := t) (by rw [q1]; exact hts _ q2) rfl d rfl (fun q => by rw [← o_0, o_lt hz0 i32_0] at q; omega) hcl (by rw [q1]; exact q6) (by omega) (by omega) rfl (fun H1 cA e1 e2 e3 e4 e5 => ?_)
    rw [q1] at e1 e5
    have hcA : cA = gA g kd := Option.some.inj (e5.symm.trans (q7 (hG.1.2 kd _ q3).2))
    subst hcA
    obtain ⟨hR1, hS1, hzf⟩ := zmake (sl := n.toNat) hR hS hb9 (y := .inr (kd, n.toNat, fun _ => 0)) ⟨q8, by omega, fun _ _ => i64_0, fun _ _ => i32_0⟩ e2 e3 (by rw [q4]; show H1[gb g + h.1.1]? = some (vp_cell _ _); rw [q5, ← e1, hR.1])
    have k2 := k H1 locs (cells + 1) (slots + n.toNat) ls hR1 hS1 hL (fac trivial hr) (by simp only [zpu]; omega) (by simp only [zpu]; omega)
    rw [List.map_cons, zv_r g (by omega), hzf] at k2
    exact k2
  cases t with
  | byte => cases hk; exact go .byte _ rfl zAc_byte rfl rfl rfl (by simp only [componentBytes]; omega) id (by omega)
  | int => cases hk; exact go .int _ rfl zAc_int rfl rfl rfl (by simp only [componentBytes]; omega) id (by omega)
  | long => cases hk; exact go .long _ rfl zAc_long rfl rfl rfl (by simp only [componentBytes]; omega) id (by omega)
  | boolean => cases hk; exact go .boolean _ rfl zAc_boolean rfl rfl rfl (by simp only [componentBytes]; omega) id (by omega)
  | char => cases hk
  | float => cases hk
  | double => cases hk
  | short => cases hk
theorem zs_anewarray {i : Nat} (X : zX g M p R s m args meth c) (hrm : h'.1.1 ≤ c0 + R.cells ∧ h'.1.2 ≤ s0 + R.slots) (d : ClassFile.decode (mC M) pc = .ok (.anewarray i, ln)) (E : stp M (.anewarray i) ln pc L st h = some (.inl (pc', L', st', h'))) (k : zAt g M p l e R s m args below meth c Q c0 s0 pc' L' st' h') : zAt g M p l e R s m args below meth c Q c0 s0 pc L st h := by
  replace E := zg_inv E
  obtain ⟨hln, E⟩ := E
  have hln : ln = 3 := by simpa using hln
  subst hln
  obtain ⟨n, r, rfl, E⟩ := ti1_inv E
  obtain ⟨hgd, E⟩ := zg_inv E
  simp only [Bool.and_eq_true, decide_eq_true_eq] at hgd
  obtain ⟨⟨hn0, hn1⟩, hb9⟩ := hgd
  obtain ⟨kd, hk, E⟩ := od_inv E
  obtain ⟨rfl, rfl, rfl, rfl⟩ := zgo_inv E
  intro H locs cells slots ls hR hS hL hst hc hs
  obtain ⟨hx, hb, hml, hown, hts, hret, hlk, hini, hfr, hwd, hG⟩ := X
  obtain ⟨hz0, hr⟩ := fa1 hst
  simp only [zpu] at hrm
  obtain ⟨q1, q2⟩ := zTA_ok _ (zfind_mem hk)
  dsimp only at q1 q2
  have hcl := o_clamp hz0 hn0
  have go : va_AO (zAn kd) s → (zTys g)[kd]? = some (gA g kd, .object (zAn kd)) → W p l e R s m args below meth c H locs cells slots Q (F0 m pc ls (zv g (vi n) :: r.map (zv g))) := by
    intro q3 q4
    refine W.anew hx hb hown (hts _ q1) (va_AO.use q3) rfl d rfl (fun q => by rw [← o_0, o_lt hz0 i32_0] at q; omega) (by rw [hcl]; omega) (by omega) (by rw [hcl]; omega) (fun cA kA comp f1 f2 f3 f4 => ?_)
    obtain ⟨kA', comp', r1, r2, r3, r4⟩ := (hG.1.2 kd _ q4).2
    have hcA : cA = gA g kd := Option.some.inj (f1.symm.trans r4)
    subst hcA
    rw [hcl]
    generalize hH1 : H.push ({ cls := gA g kd, slots := Array.replicate n.toNat .null, vm := .none } : Cell) = H1
    have e2 : H1.size = H.size + 1 := by rw [← hH1, Array.size_push]
    have e1 : H1[H.size]? = some (arrV (gA g kd) n.toNat (fun _ => .null)) := by rw [← hH1, Array.getElem?_push_size, ← arrV_new]
    have e3 : ∀ q : Nat, q < H.size → H1[q]? = H[q]? := fun q hq => by rw [← hH1, Array.getElem?_push, if_neg (Nat.ne_of_lt hq)]
    obtain ⟨hR1, hS1, hzf⟩ := zmake (sl := n.toNat) hR hS hb9 (y := .inr (kd, n.toNat, fun _ => 0)) ⟨by omega, by omega, fun _ _ => i64_0, fun _ _ => i32_0⟩ e2 e3 (by rw [zc_4 g kd _ _ q2]; show H1[gb g + h.1.1]? = some (vp_cell _ _); rw [vp_cell_q, ← hR.1, e1]; rfl)
    have k2 := k H1 locs (cells + 1) (slots + n.toNat) ls hR1 hS1 hL (fac trivial hr) (by simp only [zpu]; omega) (by simp only [zpu]; omega)
    rw [List.map_cons, zv_r g (by omega), hzf] at k2
    exact k2
  obtain ⟨o3, o5, o9⟩ := hG.2.2.2.2.2.2.1
  rcases q2 with rfl | rfl | rfl
  · exact go o3 rfl
  · exact go o5 rfl
  · exact go o9 rfl
theorem zs_new {i : Nat} (X : zX g M p R s m args meth c) (hrm : h'.1.1 ≤ c0 + R.cells ∧ h'.1.2 ≤ s0 + R.slots) (d : ClassFile.decode (mC M) pc = .ok (.new i, ln)) (E : stp M (.new i) ln pc L st h = some (.inl (pc', L', st', h'))) (k : zAt g M p l e R s m args below meth c Q c0 s0 pc' L' st' h') : zAt g M p l e R s m args below meth c Q c0 s0 pc L st h := by
  replace E := zg_inv E
  obtain ⟨hln, E⟩ := E
  simp only [Bool.and_eq_true, beq_iff_eq, decide_eq_true_eq] at hln
  obtain ⟨hl1, hb9⟩ := hln
  subst hl1
  obtain ⟨ci, hk, E⟩ := od_inv E
  obtain ⟨rfl, rfl, rfl, rfl⟩ := zgo_inv E
  intro H locs cells slots ls hR hS hL hst hc hs
  obtain ⟨hx, hb, hml, hown, hts, hret, hlk, hini, hfr, hwd, hG⟩ := X
  simp only [zpu] at hrm
  obtain ⟨C, T, N, q1, q2⟩ := zTN_ok _ (zfind_mem hk)
  dsimp only at q1 q2
  obtain ⟨ty, g1, g2, g3, g4, g5, g6, g7⟩ := zCok_in q1
  have hKn := hG.1.1 ci _ q1
  rw [g4] at hrm k
  refine W.newcK hx hb hown (hts _ q2) (hts _ g6) (hts _ g7) rfl d (by omega) (by omega) hKn.2.1 rfl (fun H1 kC hkC e1 e2 e3 => ?_)
  have hd : ∀ j, j < N → defaultValue (ty j) = vp_V ((zDf ci).map (zv g)) j := fun j hj => by
    have h1 := g5 j hj
    have hlt : j < (zDf ci).length := by omega
    have h2 : (zDf ci)[j]? = some (zDf ci)[j] := List.getElem?_eq_getElem hlt
    rw [h2] at h1
    rw [zdv_ok (g := g) h1]
    unfold vp_V
    rw [List.getD_eq_getElem?_getD, List.getElem?_map, h2]
    rfl
  have hco : zco (.inl (ci, zDf ci)) := by
    refine ⟨fun v hv => ?_, _, q1, g4⟩
    obtain ⟨j, hj⟩ := List.getElem?_of_mem hv
    have hlt : j < (zDf ci).length := (List.getElem?_eq_some_iff.mp hj).1
    have h1 := g5 j (by omega)
    rw [hj] at h1
    exact zdv_vo h1
  obtain ⟨hR1, hS1, hzf⟩ := zmake (sl := N) hR hS hb9 (y := .inl (ci, zDf ci)) hco e2 e3 (by
    refine ⟨_, q1, ?_⟩
    rw [show gb g + h.1.1 = H.size from hR.1.symm]
    exact (u_born ty hts g1 hKn hkC e1 g2).to hd)
  have k2 := k H1 locs (cells + 1) (slots + N) ls hR1 hS1 hL (fac trivial hst) (by simp only [zpu]; omega) (by simp only [zpu]; omega)
  rw [List.map_cons, zv_r g (by omega), hzf] at k2
  exact k2
theorem zs_ldc {i : Nat} (X : zX g M p R s m args meth c) (d : ClassFile.decode (mC M) pc = .ok (.ldc i, ln)) (E : stp M (.ldc i) ln pc L st h = some (.inl (pc', L', st', h'))) (k : zAt g M p l e R s m args below meth c Q c0 s0 pc' L' st' h') : zAt g M p l e R s m args below meth c Q c0 s0 pc L st h := by
  replace E := zg_inv E
  obtain ⟨hln, E⟩ := E
  have hln : ln = 2 := by simpa using hln
  subst hln
  split at E
  · rename_i v hf
    obtain ⟨rfl, rfl, rfl, rfl⟩ := zgo_inv E
    intro H locs cells slots ls hR hS hL hst hc hs
    obtain ⟨hx, hb, hml, hown, hts, hret, hlk, hini, hfr, hwd, hG⟩ := X
    have hq := zTC_ok _ (zfind_mem hf)
    exact lv_ldc hx hb hown (hts _ hq.1) d (k H locs cells slots ls hR hS hL (fac hq.2 hst) hc hs)
  · obtain ⟨j, hf, E⟩ := od_inv E
    obtain ⟨rfl, rfl, rfl, rfl⟩ := zgo_inv E
    intro H locs cells slots ls hR hS hL hst hc hs
    obtain ⟨hx, hb, hml, hown, hts, hret, hlk, hini, hfr, hwd, hG⟩ := X
    obtain ⟨tx, hq⟩ := zTR_ok _ (zfind_mem hf)
    have k2 := k H locs cells slots ls hR hS hL (fac trivial hst) hc hs
    rw [List.map_cons, zv_r g (zsa_ne j), zsa_f g j] at k2
    dsimp only at hq
    have hZ : vk_R (zNm (mO M)) i tx (gx g (j + 1)) s := hG.2.2.2.1 j (zNm (mO M), i, tx) hq
    exact va_ldcS (own := zNm (mO M)) (tx := tx) (index := i) (q := gx g (j + 1)) (rest := st.map (zv g)) hx hb hown hZ d k2
/-- the plain part of a static call: Math.max, Math.min, arraycopy -/
theorem zs_static {i : Nat} (X : zX g M p R s m args meth c) (hz : s.heap.size = gb g + c0) (hrm : h'.1.1 ≤ c0 + R.cells ∧ h'.1.2 ≤ s0 + R.slots) (d : ClassFile.decode (mC M) pc = .ok (.invokestatic i, ln)) (E : stp M (.invokestatic i) ln pc L st h = some (.inl (pc', L', st', h'))) (k : zAt g M p l e R s m args below meth c Q c0 s0 pc' L' st' h') : zAt g M p l e R s m args below meth c Q c0 s0 pc L st h := by
  replace E := zg_inv E
  obtain ⟨hln, E⟩ := E
  have hln : ln = 3 := by simpa using hln
  subst hln
  split at E
  · obtain ⟨-, E⟩ := zg_inv E
    obtain ⟨-, E⟩ := zg_inv E
    cases E
  · split at E
    · rename_i b hf
      obtain ⟨x, y, r, rfl, E⟩ := ar2_inv E
      obtain ⟨hgd, E⟩ := zg_inv E
      simp only [Bool.and_eq_true, decide_eq_true_eq] at hgd
      obtain ⟨⟨hg1, hg2⟩, hg3⟩ := hgd
      obtain ⟨rfl, rfl, rfl, rfl⟩ := zgo_inv E
      intro H locs cells slots ls hR hS hL hst hc hs
      obtain ⟨hx, hb, hml, hown, hts, hret, hlk, hini, hfr, hwd, hG⟩ := X
      obtain ⟨hy0, hx0, hr⟩ := fa2 hst
      have hq := zTM_ok _ (zfind_mem hf)
      have h8 : ((r.map (zv g)).map fun v => v.category).sum ≤ 8 := zrm8_ok (g := g) hg3
      have hls : c.maxLocals = ls.size := by rw [hml, hL.1.1]
      have hrm2 : cells ≤ R.cells ∧ slots ≤ R.slots := by omega
      cases b with
      | true =>
        have k2 := k H locs cells slots ls hR hS hL (fac (show i32 (if x < y then y else x) = _ by split <;> assumption) hr) hc hs
        refine va_mmax hx hb hls hown (hts _ hq) (hts _ zMI_max.1) (hts _ zMI_max.2.1) (hts _ zMI_max.2.2) (by omega) (by omega) hrm2.1 hrm2.2 d ?_
        rw [show (if Int32.ofInt x < Int32.ofInt y then Int32.ofInt y else Int32.ofInt x) = Int32.ofInt (if x < y then y else x) by simp only [o_lt hx0 hy0]; split <;> rfl]
        exact k2
      | false =>
        have k2 := k H locs cells slots ls hR hS hL (fac (show i32 (if y < x then y else x) = _ by split <;> assumption) hr) hc hs
        refine va_mmin hx hb hls hown (hts _ hq) (hts _ zMI_min.1) (hts _ zMI_min.2.1) (hts _ zMI_min.2.2) (by omega) (by omega) hrm2.1 hrm2.2 d ?_
        rw [show (if Int32.ofInt y < Int32.ofInt x then Int32.ofInt y else Int32.ofInt x) = Int32.ofInt (if y < x then y else x) by simp only [o_lt hy0 hx0]; split <;> rfl]
        exact k2
    · obtain ⟨u, hf, E⟩ := od_inv E
      split at E
      · rename_i n dp b sp a r hx7
        obtain ⟨y, hy, E⟩ := od_inv E
        obtain ⟨hgd, E⟩ := zg_inv E
        simp only [Bool.and_eq_true, decide_eq_true_eq] at hgd
        obtain ⟨⟨hg1, hg2⟩, hg3⟩ := hgd
        obtain ⟨rfl, rfl, rfl, rfl⟩ := zgo_inv E
        intro H locs cells slots ls hR hS hL hst hc hs
        obtain ⟨hx, hb, hml, hown, hts, hret, hlk, hini, hfr, hwd, hG⟩ := X
        obtain ⟨hn0, hdp0, hr1⟩ := fa2 hst
        obtain ⟨-, hsp0, hr2⟩ := fa2 hr1
        have hr3 := (fa1 hr2).2
        have hq := zTX_ok _ (zfind_mem hf)
        have h8 := zrm8_ok (g := g) hg3
        have hls : c.maxLocals = ls.size := by rw [hml, hL.1.1]
        have key : ∃ m1 f1 m2 f2, h.2 a = .inr (1, m1, f1) ∧ h.2 b = .inr (1, m2, f2) ∧ 0 ≤ sp ∧ 0 ≤ dp ∧ 0 ≤ n ∧ sp + n ≤ (m1 : Int) ∧ dp + n ≤ (m2 : Int) ∧ y = .inr (1, m2, va_cpy f1 f2 sp.toNat dp.toNat n.toNat) := by
          unfold zcopy at hy
          split at hy
          · split at hy
            · rename_i e1 e2 hh
              obtain ⟨rfl, rfl, a1, a2, a3, a4, a5⟩ := hh
              cases hy
              exact ⟨_, _, _, _, e1, e2, a1, a2, a3, a4, a5, rfl⟩
            · cases hy
          · cases hy
        obtain ⟨m1, f1, m2, f2, e1, e2, a1, a2, a3, a4, a5, rfl⟩ := key
        obtain ⟨i0, rfl, hi, hin0, hzf, hw, hco⟩ := hR.ar e1 (by omega)
        obtain ⟨j0, rfl, hj, hjn0, hjzf, hjw, hjco⟩ := hR.ar e2 (by omega)
        rw [zc_1 g 1 m1 f1 (by omega)] at hw
        rw [zc_1 g 1 m2 f2 (by omega)] at hjw
        simp only [List.map_cons]
        rw [zv_r g hin0, zv_r g hjn0]
        have c1 := o_clamp hsp0 a1
        have c2 := o_clamp hdp0 a2
        have c3 := o_clamp hn0 a3
        refine va_copyi (D := gD g) (cl := vwCl) (ty := .int) hx hb hls hown (hts _ hq) (hts _ zXI.1) (hts _ zXI.2.1) (hts _ zXI.2.2) hG.1 hR.2.2.2.2.2 zws_D hS.me i0 j0 1 1 hw hjw rfl rfl rfl (fun q => by rw [← o_0, o_lt hsp0 i32_0] at q; omega) (fun q => by rw [← o_0, o_lt hdp0 i32_0] at q; omega) (fun q => by rw [← o_0, o_lt hn0 i32_0] at q; omega) (by rw [c1, c3]; omega) (by rw [c2, c3]; omega) (fun _ _ => rfl) (by omega) (by
          have : nativeFrameWords "java/lang/System" "arraycopy" 5 = 7 := by decide +kernel
          rw [this]
          omega) d (zstore hz hR hj ?_ ?_ hjzf hS hL hr3 hc hs k)
        · obtain ⟨b1, b2, b3, b4⟩ := hjco
          refine ⟨b1, b2, fun q => by omega, fun _ j => ?_⟩
          unfold va_cpy
          split
          · exact hco.2.2.2 (by omega) _
          · exact b4 (by omega) _
        · rw [zc_1 g 1 m2 _ (by omega), c1, c2, c3]
          congr 4
          funext j
          unfold va_cpy
          split <;> rfl
      · cases E
/-- Object's own constructor -/
theorem zs_special {i : Nat} (X : zX g M p R s m args meth c) (d : ClassFile.decode (mC M) pc = .ok (.invokespecial i, ln)) (E : stp M (.invokespecial i) ln pc L st h = some (.inl (pc', L', st', h'))) (k : zAt g M p l e R s m args below meth c Q c0 s0 pc' L' st' h') : zAt g M p l e R s m args below meth c Q c0 s0 pc L st h := by
  replace E := zg_inv E
  obtain ⟨hln, E⟩ := E
  have hln : ln = 3 := by simpa using hln
  subst hln
  split at E
  · obtain ⟨-, E⟩ := zg_inv E
    obtain ⟨a, r, -, E⟩ := ta1_inv E
    obtain ⟨-, E⟩ := zg_inv E
    obtain ⟨-, E⟩ := zg_inv E
    cases E
  · obtain ⟨u, hf, E⟩ := od_inv E
    obtain ⟨a, r, rfl, E⟩ := ta1_inv E
    obtain ⟨hgd, E⟩ := zg_inv E
    simp only [Bool.and_eq_true, decide_eq_true_eq] at hgd
    obtain ⟨⟨⟨hn0, hg1⟩, hg2⟩, hg3⟩ := hgd
    obtain ⟨rfl, rfl, rfl, rfl⟩ := zgo_inv E
    intro H locs cells slots ls hR hS hL hst hc hs
    obtain ⟨hx, hb, hml, hown, hts, hret, hlk, hini, hfr, hwd, hG⟩ := X
    have hr := (fa1 hst).2
    have h8 := zrm8_ok (g := g) hg3
    rw [List.map_cons, zv_r g hn0]
    exact W.objInit hx hb hown (hts _ (zTO_ok _ (zfind_mem hf))) (hts _ zOI.1) (hts _ zOI.2) rfl (by rw [hml]; exact hL.1.1) rfl d (by omega) (by
      have h8' : ((r.map (zv g)).map fun v => v.category).sum ≤ 8 := h8
      show 2 * 0 + _ + 12 ≤ _
      omega) (k H locs cells slots ls hR hS hL hr hc hs)
end ZN
