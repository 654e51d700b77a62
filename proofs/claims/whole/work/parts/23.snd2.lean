/-! soundness of the abstract step: fields, arrays, making -/
theorem va_S.tr {A : Nat → Prop} {H0 H H1 : Heap} {locs locs1 : List Loc} (h : va_S A H0 H locs) (h1 : va_S A H H1 locs1) : va_S A H0 H1 locs1 := ⟨Nat.le_trans h.1 h1.1, fun q a b => (h1.2.1 q (Nat.lt_of_lt_of_le a h.1) b).trans (h.2.1 q a b), h1.2.2⟩
theorem va_S.me {A : Nat → Prop} {H0 H : Heap} {locs : List Loc} (h : va_S A H0 H locs) : va_S A H H locs := ⟨Nat.le_refl _, fun _ _ _ => rfl, h.2.2⟩
theorem zfo_inv {x : zC} {ci k : Nat} {v : zV} (e : zfo x ci k = some v) : ∃ fs, x = .inl (ci, fs) ∧ fs[k]? = some v := by
  unfold zfo at e
  split at e
  · split at e
    · rename_i h; subst h; exact ⟨_, rfl, e⟩
    · cases e
  · cases e
theorem zpf_inv {x y : zC} {ci k : Nat} {v : zV} (e : zpf x ci k v = some y) : ∃ fs, x = .inl (ci, fs) ∧ k < fs.length ∧ y = .inl (ci, fs.set k v) := by
  unfold zpf at e
  split at e
  · split at e
    · rename_i h; obtain ⟨rfl, h2⟩ := h; cases e; exact ⟨_, rfl, h2, rfl⟩
    · cases e
  · cases e
theorem zel_inv {x : zC} {kd : Nat} {z v : Int} (e : zel x kd z = some v) : ∃ n f, x = .inr (kd, n, f) ∧ 0 ≤ z ∧ z < (n : Int) ∧ v = f z.toNat := by
  unfold zel at e
  split at e
  · split at e
    · rename_i h; obtain ⟨rfl, h2, h3⟩ := h; cases e; exact ⟨_, _, rfl, h2, h3, rfl⟩
    · cases e
  · cases e
theorem zst_inv {x y : zC} {kd : Nat} {z v : Int} (e : zst x kd z v = some y) : ∃ n f, x = .inr (kd, n, f) ∧ 0 ≤ z ∧ z < (n : Int) ∧ y = .inr (kd, n, fup f z.toNat v) := by
  unfold zst at e
  split at e
  · split at e
    · rename_i h; obtain ⟨rfl, h2, h3⟩ := h; cases e; exact ⟨_, _, rfl, h2, h3, rfl⟩
    · cases e
  · cases e
theorem zle_inv {x : zC} {n : Int} (e : zle x = some n) : ∃ k m f, x = .inr (k, m, f) ∧ m < 2147483648 ∧ n = (m : Int) := by
  unfold zle at e
  split at e
  · split at e
    · rename_i h; cases e; exact ⟨_, _, _, rfl, h, rfl⟩
    · cases e
  · cases e
theorem zis_inv {x : zC} {ci : Nat} (e : zis x ci = true) : ∃ fs, x = .inl (ci, fs) := by
  unfold zis at e
  split at e
  · have := of_decide_eq_true e; subst this; exact ⟨_, rfl⟩
  · cases e
theorem vwCl_lt {ci : Nat} {q : vw_C} (h : vwCl[ci]? = some q) : ci < 11 := (List.getElem?_eq_some_iff.mp h).1
theorem zCok_in {ci : Nat} {C : String} {T : u_T} {N : Nat} (h : vwCl[ci]? = some (C, T, N)) : ∃ ty : Nat → FieldType, (∀ w ∈ u_ws C T N, w ∈ zW) ∧ (∀ k, k < N → parseFieldDescriptor (T k).2.2.1 = some (ty k)) ∧ (∀ a, a < N → ∀ b, b < N → a ≠ b → (T a).2.1 ≠ (T b).2.1) ∧ (zDf ci).length = N ∧ (∀ k, k < N → zdv (ty k) = (zDf ci)[k]?) ∧ Cond.instantiable C N ∈ zW ∧ Cond.initialized C ∈ zW := by
  obtain ⟨C', T', N', ty, h1, h2, h3, h4, h5, h6, h7, h8⟩ := zCok_all h
  cases h.symm.trans h1
  refine ⟨ty, fun w hw => ?_, h3, h4, h5, h6, h7, h8⟩
  obtain ⟨k, hk, rfl⟩ := List.mem_map.mp hw
  exact h2 k (List.mem_range.mp hk)
theorem zfit_ok {g : zG} {t : Int} {ty : FieldType} {v : zV} (h1 : zTy t ty) (h2 : zfit t v = true) : narrow ty (zv g v) = zv g v ∧ fits ty (zv g v) = true := by
  match v, h2 with
  | .inl z, h2 =>
    simp only [zfit, Bool.or_eq_true, Bool.and_eq_true, decide_eq_true_eq] at h2
    rcases h1 with ⟨rfl, rfl⟩ | ⟨rfl, rfl⟩ | ⟨rfl, rfl⟩ | ⟨rfl, -⟩
    · exact ⟨rfl, rfl⟩
    · rcases h2 with h2 | ⟨-, h2⟩
      · omega
      · rcases h2 with rfl | rfl
        · exact ⟨rfl, rfl⟩
        · exact ⟨by show Value.int ((Int32.ofInt 1) &&& 1) = Value.int (Int32.ofInt 1); decide, by show ((Int32.ofInt 1) == 0 || (Int32.ofInt 1) == 1) = true; decide⟩
    · omega
    · omega
  | .inr (.inl a), h2 =>
    have h2 : t = 3 := by simpa [zfit] using h2
    subst h2
    rcases h1 with ⟨h, -⟩ | ⟨h, -⟩ | ⟨h, -⟩ | ⟨-, h⟩
    · omega
    · omega
    · omega
    · by_cases h0 : a = 0
      · subst h0
        rcases h with ⟨C, rfl⟩ | ⟨e, rfl⟩ <;> exact ⟨rfl, rfl⟩
      · rw [zv_r g h0]
        rcases h with ⟨C, rfl⟩ | ⟨e, rfl⟩ <;> exact ⟨rfl, rfl⟩
  | .inr (.inr (.inl z)), h2 =>
    have h2 : t = 2 := by simpa [zfit] using h2
    subst h2
    rcases h1 with ⟨h, -⟩ | ⟨h, -⟩ | ⟨-, rfl⟩ | ⟨h, -⟩
    · omega
    · omega
    · exact ⟨rfl, rfl⟩
    · omega
theorem zco_set {ci k : Nat} {fs : List zV} {v : zV} (h : zco (.inl (ci, fs))) (hv : zvo v) : zco (.inl (ci, fs.set k v)) := by
  obtain ⟨h1, q, h2, h3⟩ := h
  refine ⟨fun w hw => ?_, q, h2, by rw [List.length_set]; exact h3⟩
  rcases List.mem_or_eq_of_mem_set hw with a | a
  · exact h1 w a
  · subst a; exact hv
theorem zc_set (g : zG) (ci k : Nat) (fs : List zV) (v : zV) : zc g (.inl (ci, fs.set k v)) = .inr (ci, (fs.map (zv g)).set k (zv g v)) := by
  show (.inr (ci, (fs.set k v).map (zv g)) : va_E) = _
  rw [List.map_set]
theorem zc_1 (g : zG) (k n : Nat) (f : Nat → Int) (h : k = 0 ∨ k = 1 ∨ k = 3) : zc g (.inr (k, n, f)) = .inl (gA g k, n, .inl (fun j => Int32.ofInt (f j))) := by
  rcases h with rfl | rfl | rfl <;> rfl
theorem zc_2 (g : zG) (n : Nat) (f : Nat → Int) : zc g (.inr (2, n, f)) = .inl (gA g 2, n, .inr (.inl (fun j => Int64.ofInt (f j)))) := rfl
theorem zc_4 (g : zG) (k n : Nat) (f : Nat → Int) (h : k = 4 ∨ k = 5 ∨ k = 6) : zc g (.inr (k, n, f)) = .inl (gA g k, n, .inr (.inr (.inr (.inr (fun j => if (f j).toNat = 0 then none else some (zf g (f j).toNat)))))) := by
  rcases h with rfl | rfl | rfl <;> rfl
theorem upd_fup (f : Nat → Int) (k : Nat) (v : Int) : upd (fun j => Int32.ofInt (f j)) k (Int32.ofInt v) = fun j => Int32.ofInt (fup f k v j) := by
  funext j
  unfold upd fup
  split <;> rfl
theorem updL_fup (f : Nat → Int) (k : Nat) (v : Int) : vp_updL (fun j => Int64.ofInt (f j)) k (Int64.ofInt v) = fun j => Int64.ofInt (fup f k v j) := by
  funext j
  unfold vp_updL fup
  split <;> rfl
theorem zco_fup {k n : Nat} {f : Nat → Int} {i : Nat} {v : Int} (h : zco (.inr (k, n, f))) (hv : (k = 2 → i64 v = v) ∧ (k ≠ 2 → i32 v = v)) : zco (.inr (k, n, fup f i v)) := by
  obtain ⟨h1, h2, h3, h4⟩ := h
  refine ⟨h1, h2, fun q j => ?_, fun q j => ?_⟩
  · unfold fup
    split
    · exact hv.1 q
    · exact h3 q j
  · unfold fup
    split
    · exact hv.2 q
    · exact h4 q j
section ZH
variable {g : zG} {M : zMd} {p : Program} {l : Launch} {e : Env} {R : Room} {s : State} {m : MethodId} {args : Array Value} {below : List Frame} {meth : Method} {c : Code} {Q : State → Prop} {c0 s0 : Nat} {pc ln : Nat} {L st : List zV} {h : zH} {pc' : Nat} {L' st' : List zV} {h' : zH}
/-- the heap's size is told by the cells that were made -/
theorem W.sz {H : Heap} {locs : List Loc} {cells slots : Nat} {fr : JFrame} (hz : s.heap.size = gb g + c0) (hle : gb g + (c0 + cells) ≤ H.size) (k : H.size = gb g + (c0 + cells) → W p l e R s m args below meth c H locs cells slots Q fr) : W p l e R s m args below meth c H locs cells slots Q fr := fun T hT X => k (by
  have := X.heapSize
  rw [hT] at this
  omega) T hT X
theorem zs_getfield {i : Nat} (X : zX g M p R s m args meth c) (d : ClassFile.decode (mC M) pc = .ok (.getfield i, ln)) (E : stp M (.getfield i) ln pc L st h = some (.inl (pc', L', st', h'))) (k : zAt g M p l e R s m args below meth c Q c0 s0 pc' L' st' h') : zAt g M p l e R s m args below meth c Q c0 s0 pc L st h := by
  replace E := zg_inv E
  obtain ⟨hln, E⟩ := E
  have hln : ln = 3 := by simpa using hln
  subst hln
  obtain ⟨a, r, rfl, E⟩ := ta1_inv E
  obtain ⟨⟨ci, kk, t, kd⟩, hf, E⟩ := od_inv E
  obtain ⟨v, hv, E⟩ := od_inv E
  obtain ⟨-, E⟩ := zg_inv E
  obtain ⟨rfl, rfl, rfl, rfl⟩ := zgo_inv E
  intro H locs cells slots ls hR hS hL hst hc hs
  obtain ⟨hx, hb, hml, hown, hts, hret, hlk, hini, hfr, hwd, hG⟩ := X
  obtain ⟨ha0, hr⟩ := fa1 hst
  obtain ⟨C, T, N, ty, q1, q2, q3, q4, q5, q6, q7, q8⟩ := zTF_ok _ (zfind_mem hf)
  dsimp only at q1 q2 q3 q4 q5 q6 q7 q8
  obtain ⟨fs, e1, e2⟩ := zfo_inv hv
  have hlt := vwCl_lt q1
  obtain ⟨i0, rfl, hi, hn0, hzf, hw, hco⟩ := hR.ob e1 (by omega)
  obtain ⟨tys, g1, g2, g3, -⟩ := zCok_in q1
  have hvo : zvo v := hco.1 v (List.mem_of_getElem? e2)
  have k2 := k H locs cells slots ls hR hS hL (fac hvo hr) hc hs
  rw [List.map_cons, zv_r g hn0]
  have hv2 : (fs.map (zv g))[kk]? = some (zv g v) := by rw [List.getElem?_map, e2]; rfl
  rcases q8 with ⟨-, q8⟩ | ⟨-, q9, q10, q11⟩
  · exact va_get (D := gD g) (cl := vwCl) hx hb hts g1 hown hG.1 hR.2.2.2.2.2 i0 hw q1 kk q2 (hts _ q8) (fun x hx => by rw [q5] at hx; exact hx) hv2 d k2
  · have hn := hG.2.2.2.2.1 _ q11
    exact va_getN (D := gD g) (cl := vwCl) (host := RX10) (ref := RX3) (own := RX10) hx hb hts g1 (by have := hown; rw [q9] at this; exact this) hG.1 hR.2.2.2.2.2 i0 hw q1 kk q2 (va_Nw.use rfl hn) (fun x hx => by rw [q5, q10] at hx; exact hx) hv2 d k2
theorem zs_putfield {i : Nat} (X : zX g M p R s m args meth c) (hz : s.heap.size = gb g + c0) (d : ClassFile.decode (mC M) pc = .ok (.putfield i, ln)) (E : stp M (.putfield i) ln pc L st h = some (.inl (pc', L', st', h'))) (k : zAt g M p l e R s m args below meth c Q c0 s0 pc' L' st' h') : zAt g M p l e R s m args below meth c Q c0 s0 pc L st h := by
  replace E := zg_inv E
  obtain ⟨hln, E⟩ := E
  have hln : ln = 3 := by simpa using hln
  subst hln
  split at E
  · rename_i v a r
    obtain ⟨⟨ci, kk, t, kd⟩, hf, E⟩ := od_inv E
    obtain ⟨hgd, E⟩ := zg_inv E
    obtain ⟨y, hy, E⟩ := od_inv E
    obtain ⟨rfl, rfl, rfl, rfl⟩ := zgo_inv E
    intro H locs cells slots ls hR hS hL hst hc hs
    obtain ⟨hx, hb, hml, hown, hts, hret, hlk, hini, hfr, hwd, hG⟩ := X
    obtain ⟨hv0, -, hr⟩ := fa2 hst
    obtain ⟨C, T, N, ty, q1, q2, q3, q4, q5, q6, q7, q8⟩ := zTF_ok _ (zfind_mem hf)
    dsimp only at q1 q2 q3 q4 q5 q6 q7 q8 hgd
    obtain ⟨fs, e1, e2, rfl⟩ := zpf_inv hy
    have hlt := vwCl_lt q1
    obtain ⟨i0, rfl, hi, hn0, hzf, hw, hco⟩ := hR.ob e1 (by omega)
    obtain ⟨tys, g1, g2, g3, -⟩ := zCok_in q1
    rw [Bool.and_eq_true] at hgd
    have hfit := zfit_ok (g := g) q4 hgd.1
    rw [List.map_cons, List.map_cons, zv_r g hn0]
    have key : ∀ (H1 : Heap) (locs1 : List Loc), va_P (gD g) vwCl ((zws g h).set i0 (zf g (i0 + 1), .inr (ci, (fs.map (zv g)).set kk (zv g v)))) H1 → va_D (zA g) ((zws g h).set i0 (zf g (i0 + 1), .inr (ci, (fs.map (zv g)).set kk (zv g v)))) → va_S (zA g) H H1 locs1 → W p l e R s m args below meth c H1 locs1 cells slots Q (F0 m (pc + 3) ls (r.map (zv g))) := by
      intro H1 locs1 hP1 hD1 hS1
      have hsz := hR.1
      refine W.sz (g := g) (c0 := c0) hz (by rw [hc, ← hsz]; exact hS1.1) (fun hsz1 => ?_)
      rw [hzf, ← zc_set] at hP1
      exact k H1 locs1 cells slots ls (hR.up hi (by rw [hsz1, hsz, hc]) (zco_set hco hv0) hP1) (hS.tr hS1) hL hr hc hs
    have hl : kk < (fs.map (zv g)).length := by rw [List.length_map]; exact e2
    have hkd := hgd.2
    simp only [Bool.or_eq_true, Bool.and_eq_true, beq_iff_eq] at hkd
    rcases q8 with ⟨q8, q9⟩ | ⟨q8, q9, q10, q11⟩
    · by_cases h1 : kd = 1
      · subst h1
        have hi1 : mI M = 1 := by
          rcases hkd with (h | h) | h
          · omega
          · omega
          · exact h.2
        exact va_putF (D := gD g) (cl := vwCl) hx hb hts g1 tys g2 g3 hown hG.1 hR.2.2.2.2.2 zws_D hS.me i0 hw q1 kk q2 (hts _ q9) (fun x hx => by rw [q5] at hx; exact hx) (by rw [q6]; rfl) (hini hi1) (by rw [q5]; exact (q7 rfl).symm) q3 hfit.1 hfit.2 hl d key
      · have h0 : kd = 0 := by omega
        subst h0
        exact va_put (D := gD g) (cl := vwCl) hx hb hts g1 tys g2 g3 hown hG.1 hR.2.2.2.2.2 zws_D hS.me i0 hw q1 kk q2 (hts _ q9) (fun x hx => by rw [q5] at hx; exact hx) (by rw [q6]; rfl) q3 hfit.1 hfit.2 hl d key
    · have h2 : kd = 2 := by omega
      subst h2
      have hn := hG.2.2.2.2.1 _ q11
      exact va_putN (D := gD g) (cl := vwCl) (host := RX10) (ref := RX3) (own := RX10) hx hb hts g1 tys g2 g3 (by have := hown; rw [q9] at this; exact this) hG.1 hR.2.2.2.2.2 zws_D hS.me i0 hw q1 kk q2 (va_Nw.use rfl hn) (fun x hx => by rw [q5, q10] at hx; exact hx) (by rw [q6]; rfl) q3 hfit.1 hfit.2 hl d key
  · cases E
theorem zs_arraylength (X : zX g M p R s m args meth c) (d : ClassFile.decode (mC M) pc = .ok (.arraylength, ln)) (E : stp M .arraylength ln pc L st h = some (.inl (pc', L', st', h'))) (k : zAt g M p l e R s m args below meth c Q c0 s0 pc' L' st' h') : zAt g M p l e R s m args below meth c Q c0 s0 pc L st h := by
  replace E := zg_inv E
  obtain ⟨hln, E⟩ := E
  have hln : ln = 1 := by simpa using hln
  subst hln
  obtain ⟨a, r, rfl, E⟩ := ta1_inv E
  obtain ⟨v, hv, E⟩ := od_inv E
  obtain ⟨rfl, rfl, rfl, rfl⟩ := zgo_inv E
  intro H locs cells slots ls hR hS hL hst hc hs
  obtain ⟨hx, hb, hml, hown, hts, hret, hlk, hini, hfr, hwd, hG⟩ := X
  obtain ⟨ha0, hr⟩ := fa1 hst
  obtain ⟨kd, n, f, e1, e2, rfl⟩ := zle_inv hv
  have k2 := k H locs cells slots ls hR hS hL (fac (i32_of (by omega) (by omega)) hr) hc hs
  have hn : Int32.ofNat n = Int32.ofInt (n : Int) := by rw [Int32.ofInt_eq_ofNat]
  by_cases h99 : kd = 99
  · subst h99
    have ha : a = 1000000000 := by
      have h3 := hR.2.2.1 a
      by_cases q : a = 1000000000
      · exact q
      · exfalso
        by_cases q2 : a = 0 ∨ h.1.1 < a
        · have := h3 q2 q; rw [e1] at this; cases this
        · cases a with
          | zero => exact q2 (Or.inl rfl)
          | succ i => have := hR.2.2.2.2.1 i (by omega); rw [e1] at this; exact absurd this.1 (by omega)
    subst ha
    have h4 := hR.2.2.2.1
    rw [e1] at h4
    cases h4
    rw [List.map_cons, zv_r g (by omega), show zf g 1000000000 = gx g 0 from rfl]
    refine va_slen hx hb hG.2.1.1 (Nat.lt_of_lt_of_le hG.2.1.2.1 hG.2.1.2.2) (A := zA g) (Nat.not_le.mpr hG.2.1.2.1) hS d ?_
    rw [hn]
    exact k2
  · obtain ⟨i0, rfl, hi, hn0, hzf, hw, hco⟩ := hR.ar e1 h99
    rw [List.map_cons, zv_r g hn0]
    have hk := hco.1
    have hty : ∃ ty, (zTys g)[kd]? = some (gA g kd, ty) := by
      match kd, hk with
      | 0, _ => exact ⟨_, rfl⟩
      | 1, _ => exact ⟨_, rfl⟩
      | 2, _ => exact ⟨_, rfl⟩
      | 3, _ => exact ⟨_, rfl⟩
      | 4, _ => exact ⟨_, rfl⟩
      | 5, _ => exact ⟨_, rfl⟩
      | 6, _ => exact ⟨_, rfl⟩
    obtain ⟨ty, hty⟩ := hty
    exact va_alen (D := gD g) (cl := vwCl) hx hb hG.1 hR.2.2.2.2.2 i0 kd hw hty (v := Int32.ofInt (n : Int)) hn d k2
theorem zs_iaload (X : zX g M p R s m args meth c) (d : ClassFile.decode (mC M) pc = .ok (.iaload, ln)) (E : stp M .iaload ln pc L st h = some (.inl (pc', L', st', h'))) (k : zAt g M p l e R s m args below meth c Q c0 s0 pc' L' st' h') : zAt g M p l e R s m args below meth c Q c0 s0 pc L st h := by
  replace E := zg_inv E
  obtain ⟨hln, E⟩ := E
  have hln : ln = 1 := by simpa using hln
  subst hln
  obtain ⟨a, z, r, rfl, E⟩ := ta2_inv E
  obtain ⟨v, hv, E⟩ := od_inv E
  obtain ⟨rfl, rfl, rfl, rfl⟩ := zgo_inv E
  intro H locs cells slots ls hR hS hL hst hc hs
  obtain ⟨hx, hb, hml, hown, hts, hret, hlk, hini, hfr, hwd, hG⟩ := X
  obtain ⟨hz0, -, hr⟩ := fa2 hst
  by_cases hM : mO M = 12
  · rw [if_pos hM] at hv
    obtain ⟨n, f, e1, e2, e3, rfl⟩ := zel_inv hv
    have ha : a = 1000000000 := by
      have h3 := hR.2.2.1 a
      by_cases q : a = 1000000000
      · exact q
      · exfalso
        by_cases q2 : a = 0 ∨ h.1.1 < a
        · have := h3 q2 q; rw [e1] at this; cases this
        · cases a with
          | zero => exact q2 (Or.inl rfl)
          | succ i => have := hR.2.2.2.2.1 i (by omega); rw [e1] at this; exact absurd this.1 (by omega)
    subst ha
    have h4 := hR.2.2.2.1
    rw [e1] at h4
    cases h4
    have k2 := k H locs cells slots ls hR hS hL (fac (i32_i _) hr) hc hs
    rw [List.map_cons, List.map_cons, zv_r g (by omega), show zf g 1000000000 = gx g 0 from rfl]
    refine va_sld hx hb hG.2.1.1 (Nat.lt_of_lt_of_le hG.2.1.2.1 hG.2.1.2.2) (A := zA g) (Nat.not_le.mpr hG.2.1.2.1) hS (o_in hz0 e2 e3) d ?_
    rw [o_clamp hz0 e2]
    rw [List.map_cons, zv_i, o32] at k2
    exact k2
  · rw [if_neg hM] at hv
    obtain ⟨n, f, e1, e2, e3, rfl⟩ := zel_inv hv
    obtain ⟨i0, rfl, hi, hn0, hzf, hw, hco⟩ := hR.ar e1 (by omega)
    have k2 := k H locs cells slots ls hR hS hL (fac (hco.2.2.2 (by omega) _) hr) hc hs
    rw [zc_1 g 1 n f (by omega)] at hw
    rw [List.map_cons, List.map_cons, zv_r g hn0]
    refine va_iald (D := gD g) (cl := vwCl) hx hb hG.1 hR.2.2.2.2.2 i0 1 hw rfl (o_in hz0 e2 e3) d ?_
    rw [o_clamp hz0 e2]
    exact k2
theorem zor_inv {α : Type} {x y : Option α} {v : α} (e : x.or y = some v) : x = some v ∨ y = some v := by
  cases x with
  | none => exact Or.inr e
  | some w => exact Or.inl e
theorem zs_baload (X : zX g M p R s m args meth c) (d : ClassFile.decode (mC M) pc = .ok (.baload, ln)) (E : stp M .baload ln pc L st h = some (.inl (pc', L', st', h'))) (k : zAt g M p l e R s m args below meth c Q c0 s0 pc' L' st' h') : zAt g M p l e R s m args below meth c Q c0 s0 pc L st h := by
  replace E := zg_inv E
  obtain ⟨hln, E⟩ := E
  have hln : ln = 1 := by simpa using hln
  subst hln
  obtain ⟨a, z, r, rfl, E⟩ := ta2_inv E
  obtain ⟨v, hv, E⟩ := od_inv E
  obtain ⟨rfl, rfl, rfl, rfl⟩ := zgo_inv E
  intro H locs cells slots ls hR hS hL hst hc hs
  obtain ⟨hx, hb, hml, hown, hts, hret, hlk, hini, hfr, hwd, hG⟩ := X
  obtain ⟨hz0, -, hr⟩ := fa2 hst
  rcases zor_inv hv with hv | hv
  · obtain ⟨n, f, e1, e2, e3, rfl⟩ := zel_inv hv
    obtain ⟨i0, rfl, hi, hn0, hzf, hw, hco⟩ := hR.ar e1 (by omega)
    have k2 := k H locs cells slots ls hR hS hL (fac (hco.2.2.2 (by omega) _) hr) hc hs
    rw [zc_1 g 0 n f (by omega)] at hw
    rw [List.map_cons, List.map_cons, zv_r g hn0]
    refine va_bald (D := gD g) (cl := vwCl) hx hb hG.1 hR.2.2.2.2.2 i0 0 hw rfl (o_in hz0 e2 e3) d ?_
    rw [o_clamp hz0 e2]
    exact k2
  · obtain ⟨n, f, e1, e2, e3, rfl⟩ := zel_inv hv
    obtain ⟨i0, rfl, hi, hn0, hzf, hw, hco⟩ := hR.ar e1 (by omega)
    have k2 := k H locs cells slots ls hR hS hL (fac (hco.2.2.2 (by omega) _) hr) hc hs
    rw [zc_1 g 3 n f (by omega)] at hw
    rw [List.map_cons, List.map_cons, zv_r g hn0]
    refine va_zald (D := gD g) (cl := vwCl) hx hb hG.1 hR.2.2.2.2.2 i0 3 hw rfl (o_in hz0 e2 e3) d ?_
    rw [o_clamp hz0 e2]
    exact k2
theorem zs_laload (X : zX g M p R s m args meth c) (d : ClassFile.decode (mC M) pc = .ok (.laload, ln)) (E : stp M .laload ln pc L st h = some (.inl (pc', L', st', h'))) (k : zAt g M p l e R s m args below meth c Q c0 s0 pc' L' st' h') : zAt g M p l e R s m args below meth c Q c0 s0 pc L st h := by
  replace E := zg_inv E
  obtain ⟨hln, E⟩ := E
  have hln : ln = 1 := by simpa using hln
  subst hln
  obtain ⟨a, z, r, rfl, E⟩ := ta2_inv E
  obtain ⟨v, hv, E⟩ := od_inv E
  obtain ⟨rfl, rfl, rfl, rfl⟩ := zgo_inv E
  intro H locs cells slots ls hR hS hL hst hc hs
  obtain ⟨hx, hb, hml, hown, hts, hret, hlk, hini, hfr, hwd, hG⟩ := X
  obtain ⟨hz0, -, hr⟩ := fa2 hst
  obtain ⟨n, f, e1, e2, e3, rfl⟩ := zel_inv hv
  obtain ⟨i0, rfl, hi, hn0, hzf, hw, hco⟩ := hR.ar e1 (by omega)
  have k2 := k H locs cells slots ls hR hS hL (fac (hco.2.2.1 rfl _) hr) hc hs
  rw [zc_2] at hw
  rw [List.map_cons, List.map_cons, zv_r g hn0]
  refine va_lald (D := gD g) (cl := vwCl) hx hb hG.1 hR.2.2.2.2.2 i0 2 hw rfl (o_in hz0 e2 e3) d ?_
  rw [o_clamp hz0 e2]
  exact k2
theorem zs_aaload (X : zX g M p R s m args meth c) (d : ClassFile.decode (mC M) pc = .ok (.aaload, ln)) (E : stp M .aaload ln pc L st h = some (.inl (pc', L', st', h'))) (k : zAt g M p l e R s m args below meth c Q c0 s0 pc' L' st' h') : zAt g M p l e R s m args below meth c Q c0 s0 pc L st h := by
  replace E := zg_inv E
  obtain ⟨hln, E⟩ := E
  have hln : ln = 1 := by simpa using hln
  subst hln
  obtain ⟨a, z, r, rfl, E⟩ := ta2_inv E
  obtain ⟨v, hv, E⟩ := od_inv E
  obtain ⟨rfl, rfl, rfl, rfl⟩ := zgo_inv E
  intro H locs cells slots ls hR hS hL hst hc hs
  obtain ⟨hx, hb, hml, hown, hts, hret, hlk, hini, hfr, hwd, hG⟩ := X
  obtain ⟨hz0, -, hr⟩ := fa2 hst
  have key : ∃ kd C, (kd = 4 ∨ kd = 5 ∨ kd = 6) ∧ zel (h.2 a) kd z = some v ∧ (zTys g)[kd]? = some (gA g kd, .object C) := by
    rcases zor_inv hv with hv | hv
    · exact ⟨4, _, by omega, hv, rfl⟩
    · rcases zor_inv hv with hv | hv
      · exact ⟨5, _, by omega, hv, rfl⟩
      · exact ⟨6, _, by omega, hv, rfl⟩
  obtain ⟨kd, C, hkd, hv, hty⟩ := key
  obtain ⟨n, f, e1, e2, e3, rfl⟩ := zel_inv hv
  obtain ⟨i0, rfl, hi, hn0, hzf, hw, hco⟩ := hR.ar e1 (by omega)
  have k2 := k H locs cells slots ls hR hS hL (fac trivial hr) hc hs
  rw [zc_4 g kd n f hkd] at hw
  rw [List.map_cons, List.map_cons, zv_r g hn0]
  refine va_aldq (D := gD g) (cl := vwCl) hx hb hG.1 hR.2.2.2.2.2 i0 kd hw hty (o_in hz0 e2 e3) d ?_
  rw [o_clamp hz0 e2]
  have hq : va_rf (if (f z.toNat).toNat = 0 then none else some (zf g (f z.toNat).toNat)) = zv g (vr (f z.toNat).toNat) := by
    by_cases h0 : (f z.toNat).toNat = 0
    · rw [if_pos h0, h0]; rfl
    · rw [if_neg h0, zv_r g h0]; rfl
  rw [hq]
  exact k2
/-- behind a store -/
theorem zstore {H : Heap} {locs : List Loc} {cells slots : Nat} {ls : Array Slot} {i0 : Nat} {y : zC} {r : List zV} {pcn : Nat} {ye : va_E} (hz : s.heap.size = gb g + c0) (hR : zRep g h H) (hi : i0 < h.1.1) (hy : zco y) (hye : zc g y = ye) (hzf : zf g (i0 + 1) = gb g + i0) (hS : va_S (zA g) s.heap H locs) (hL : zLc g L ls (mL M)) (hr : ∀ v ∈ r, zvo v) (hc : c0 + cells = h.1.1) (hs : s0 + slots = h.1.2) (k : zAt g M p l e R s m args below meth c Q c0 s0 pcn L r (zup h (i0 + 1) y)) : ∀ (H1 : Heap) (locs1 : List Loc), va_P (gD g) vwCl ((zws g h).set i0 (zf g (i0 + 1), ye)) H1 → va_D (zA g) ((zws g h).set i0 (zf g (i0 + 1), ye)) → va_S (zA g) H H1 locs1 → W p l e R s m args below meth c H1 locs1 cells slots Q (F0 m pcn ls (r.map (zv g))) := by
  intro H1 locs1 hP1 hD1 hS1
  have hsz := hR.1
  refine W.sz (g := g) (c0 := c0) hz (by rw [hc, ← hsz]; exact hS1.1) (fun hsz1 => ?_)
  rw [hzf, ← hye] at hP1
  exact k H1 locs1 cells slots ls (hR.up hi (by rw [hsz1, hsz, hc]) hy hP1) (hS.tr hS1) hL hr hc hs
theorem zs_iastore (X : zX g M p R s m args meth c) (hz : s.heap.size = gb g + c0) (d : ClassFile.decode (mC M) pc = .ok (.iastore, ln)) (E : stp M .iastore ln pc L st h = some (.inl (pc', L', st', h'))) (k : zAt g M p l e R s m args below meth c Q c0 s0 pc' L' st' h') : zAt g M p l e R s m args below meth c Q c0 s0 pc L st h := by
  replace E := zg_inv E
  obtain ⟨hln, E⟩ := E
  have hln : ln = 1 := by simpa using hln
  subst hln
  split at E
  · rename_i v z a r
    obtain ⟨y, hy, E⟩ := od_inv E
    obtain ⟨rfl, rfl, rfl, rfl⟩ := zgo_inv E
    intro H locs cells slots ls hR hS hL hst hc hs
    obtain ⟨hx, hb, hml, hown, hts, hret, hlk, hini, hfr, hwd, hG⟩ := X
    obtain ⟨hv0, hz0, hr⟩ := fa2 hst
    have hr3 := (fa1 hr).2
    obtain ⟨n, f, e1, e2, e3, rfl⟩ := zst_inv hy
    obtain ⟨i0, rfl, hi, hn0, hzf, hw, hco⟩ := hR.ar e1 (by omega)
    rw [zc_1 g 1 n f (by omega)] at hw
    rw [List.map_cons, List.map_cons, List.map_cons, zv_r g hn0]
    refine va_iast (D := gD g) (cl := vwCl) hx hb hG.1 hR.2.2.2.2.2 zws_D hS.me i0 1 hw rfl (o_in hz0 e2 e3) d (zstore hz hR hi (zco_fup hco ⟨fun q => by omega, fun _ => hv0⟩) ?_ hzf hS hL hr3 hc hs k)
    rw [zc_1 g 1 n _ (by omega), ← upd_fup, o_clamp hz0 e2]
  · cases E
theorem i8_i (z : Int) : i32 (i8 z) = i8 z := i32_i _
theorem i1_i (z : Int) : i32 (i1 z) = i1 z := i32_i _
theorem zs_bastore (X : zX g M p R s m args meth c) (hz : s.heap.size = gb g + c0) (d : ClassFile.decode (mC M) pc = .ok (.bastore, ln)) (E : stp M .bastore ln pc L st h = some (.inl (pc', L', st', h'))) (k : zAt g M p l e R s m args below meth c Q c0 s0 pc' L' st' h') : zAt g M p l e R s m args below meth c Q c0 s0 pc L st h := by
  replace E := zg_inv E
  obtain ⟨hln, E⟩ := E
  have hln : ln = 1 := by simpa using hln
  subst hln
  split at E
  · rename_i v z a r
    obtain ⟨y, hy, E⟩ := od_inv E
    obtain ⟨rfl, rfl, rfl, rfl⟩ := zgo_inv E
    intro H locs cells slots ls hR hS hL hst hc hs
    obtain ⟨hx, hb, hml, hown, hts, hret, hlk, hini, hfr, hwd, hG⟩ := X
    obtain ⟨hv0, hz0, hr⟩ := fa2 hst
    have hr3 := (fa1 hr).2
    rcases zor_inv hy with hy | hy
    · obtain ⟨n, f, e1, e2, e3, rfl⟩ := zst_inv hy
      obtain ⟨i0, rfl, hi, hn0, hzf, hw, hco⟩ := hR.ar e1 (by omega)
      rw [zc_1 g 0 n f (by omega)] at hw
      rw [List.map_cons, List.map_cons, List.map_cons, zv_r g hn0]
      refine va_bast (D := gD g) (cl := vwCl) hx hb hG.1 hR.2.2.2.2.2 zws_D hS.me i0 0 hw rfl (o_in hz0 e2 e3) d (zstore hz hR hi (zco_fup hco ⟨fun q => by omega, fun _ => i8_i _⟩) ?_ hzf hS hL hr3 hc hs k)
      rw [zc_1 g 0 n _ (by omega), ← upd_fup, o_clamp hz0 e2, show Int32.ofInt (i8 v) = vp_nar .byte (Int32.ofInt v) from o32 _]
    · obtain ⟨n, f, e1, e2, e3, rfl⟩ := zst_inv hy
      obtain ⟨i0, rfl, hi, hn0, hzf, hw, hco⟩ := hR.ar e1 (by omega)
      rw [zc_1 g 3 n f (by omega)] at hw
      rw [List.map_cons, List.map_cons, List.map_cons, zv_r g hn0]
      refine va_zast (D := gD g) (cl := vwCl) hx hb hG.1 hR.2.2.2.2.2 zws_D hS.me i0 3 hw rfl (o_in hz0 e2 e3) d (zstore hz hR hi (zco_fup hco ⟨fun q => by omega, fun _ => i1_i _⟩) ?_ hzf hS hL hr3 hc hs k)
      rw [zc_1 g 3 n _ (by omega), ← upd_fup, o_clamp hz0 e2, show Int32.ofInt (i1 v) = vp_nar .boolean (Int32.ofInt v) from o32 _]
  · cases E
theorem zs_lastore (X : zX g M p R s m args meth c) (hz : s.heap.size = gb g + c0) (d : ClassFile.decode (mC M) pc = .ok (.lastore, ln)) (E : stp M .lastore ln pc L st h = some (.inl (pc', L', st', h'))) (k : zAt g M p l e R s m args below meth c Q c0 s0 pc' L' st' h') : zAt g M p l e R s m args below meth c Q c0 s0 pc L st h := by
  replace E := zg_inv E
  obtain ⟨hln, E⟩ := E
  have hln : ln = 1 := by simpa using hln
  subst hln
  split at E
  · rename_i v z a r
    obtain ⟨y, hy, E⟩ := od_inv E
    obtain ⟨rfl, rfl, rfl, rfl⟩ := zgo_inv E
    intro H locs cells slots ls hR hS hL hst hc hs
    obtain ⟨hx, hb, hml, hown, hts, hret, hlk, hini, hfr, hwd, hG⟩ := X
    obtain ⟨hv0, hz0, hr⟩ := fa2 hst
    have hr3 := (fa1 hr).2
    obtain ⟨n, f, e1, e2, e3, rfl⟩ := zst_inv hy
    obtain ⟨i0, rfl, hi, hn0, hzf, hw, hco⟩ := hR.ar e1 (by omega)
    rw [zc_2] at hw
    rw [List.map_cons, List.map_cons, List.map_cons, zv_r g hn0]
    refine va_last (D := gD g) (cl := vwCl) hx hb hG.1 hR.2.2.2.2.2 zws_D hS.me i0 2 hw rfl (o_in hz0 e2 e3) d (zstore hz hR hi (zco_fup hco ⟨fun _ => hv0, fun q => absurd rfl q⟩) ?_ hzf hS hL hr3 hc hs k)
    rw [zc_2, ← updL_fup, o_clamp hz0 e2]
  · cases E
theorem zs_aastore (X : zX g M p R s m args meth c) (hz : s.heap.size = gb g + c0) (d : ClassFile.decode (mC M) pc = .ok (.aastore, ln)) (E : stp M .aastore ln pc L st h = some (.inl (pc', L', st', h'))) (k : zAt g M p l e R s m args below meth c Q c0 s0 pc' L' st' h') : zAt g M p l e R s m args below meth c Q c0 s0 pc L st h := by
  replace E := zg_inv E
  obtain ⟨hln, E⟩ := E
  have hln : ln = 1 := by simpa using hln
  subst hln
  split at E
  · rename_i v z a r
    obtain ⟨y, hy, E⟩ := od_inv E
    obtain ⟨rfl, rfl, rfl, rfl⟩ := zgo_inv E
    intro H locs cells slots ls hR hS hL hst hc hs
    obtain ⟨hx, hb, hml, hown, hts, hret, hlk, hini, hfr, hwd, hG⟩ := X
    obtain ⟨hv0, hz0, hr⟩ := fa2 hst
    have hr3 := (fa1 hr).2
    have key : ∃ kd ci q, (kd = 4 ∨ kd = 5 ∨ kd = 6) ∧ zis (h.2 v) ci = true ∧ zst (h.2 a) kd z (v : Int) = some y ∧ vwCl[ci]? = some q ∧ (zTys g)[kd]? = some (gA g kd, .object q.1) := by
      split at hy
      · exact ⟨4, 2, _, by omega, by assumption, hy, rfl, rfl⟩
      · split at hy
        · exact ⟨5, 4, _, by omega, by assumption, hy, rfl, rfl⟩
        · split at hy
          · exact ⟨6, 8, _, by omega, by assumption, hy, rfl, rfl⟩
          · cases hy
    obtain ⟨kd, ci, q, hkd, hv, hy, hq, hty⟩ := key
    obtain ⟨fs, ev⟩ := zis_inv hv
    obtain ⟨n, f, e1, e2, e3, rfl⟩ := zst_inv hy
    obtain ⟨i0, rfl, hi, hn0, hzf, hw, hco⟩ := hR.ar e1 (by omega)
    obtain ⟨j0, rfl, hj, hjn0, hjzf, hjw, hjco⟩ := hR.ob ev (by have := vwCl_lt hq; omega)
    rw [zc_4 g kd n f hkd] at hw
    rw [List.map_cons, List.map_cons, List.map_cons, zv_r g hn0, zv_r g hjn0]
    have hj9 := hR.2.1
    refine va_astq (D := gD g) (cl := vwCl) (r := q) hx hb hG.1 hR.2.2.2.2.2 zws_D hS.me i0 kd j0 ci hw hty hjw hq (o_in hz0 e2 e3) d (zstore hz hR hi (zco_fup hco ⟨fun q => by omega, fun _ => i32_of (by omega) (by omega)⟩) ?_ hzf hS hL hr3 hc hs k)
    rw [zc_4 g kd n _ hkd, o_clamp hz0 e2]
    congr 7
    funext j
    unfold va_up fup
    by_cases hjz : j = z.toNat
    · rw [if_pos hjz, if_pos hjz]
      simp
    · rw [if_neg hjz, if_neg hjz]
  · cases E
end ZH
