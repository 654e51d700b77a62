/-! shortest, the class's side -/
def nxF (f : Nat → Int) (c fa : Nat) : Nat := (if wnx (f 0) c fa = -1 then wca (f 0) (f (3 + fa)) (wpl (f 0) c fa) else wnx (f 0) c fa).toNat
def stF (f : Nat → Int) (c fa : Nat) : Nat := if wnx (f 0) c fa = -1 then (f (7 + fa)).toNat + 2 else 1
def okF (f : Nat → Int) (j : Nat) : Bool := decide (f (11 + j) = 0)
theorem geo {f : Nat → Int} {G N c fa : Nat} (ho : wok f G) (hN : (N : Int) = f 0 * f 0) (hc : c < N) (hf : fa < 4) : nxF f c fa < N ∧ 1 ≤ stF f c fa ∧ stF f c fa ≤ 11 ∧ N ≤ 36 ∧ (-1 ≤ wnx (f 0) c fa ∧ wnx (f 0) c fa < (N : Int)) ∧ (0 ≤ wca (f 0) (f (3 + fa)) (wpl (f 0) c fa) ∧ wca (f 0) (f (3 + fa)) (wpl (f 0) c fa) < (N : Int)) ∧ (0 ≤ wpl (f 0) c fa ∧ wpl (f 0) c fa < f 0) := by
  obtain ⟨h1, h2, h3, h4, h5, h6, h7⟩ := ho
  have sq := sq_b (s := f 0) (by omega) h3.2
  have nb := wnx_b (s := f 0) (c := (c : Int)) (fa := (fa : Int)) h3.1 h3.2 (by omega) (by omega) (by omega) (by omega)
  have pb := wpl_b (s := f 0) (c := (c : Int)) (e := (fa : Int)) h3.1 (by omega) (by omega)
  have lb := h4 fa hf
  have db := h5 fa hf
  have cb := wca_b h3.1 h3.2 pb.1 pb.2 lb.1 lb.2
  unfold nxF stF
  by_cases z : wnx (f 0) c fa = -1
  · rw [if_pos z, if_pos z]; omega
  · rw [if_neg z, if_neg z]; omega
section SP
variable {A F : Nat → Nat → Int} {E : zE} {G N c s : Nat} {f : Nat → Int}
theorem h12_next {c fa : Int} (h1 : 1 ≤ A 13 0) (h2 : A 13 0 ≤ 6) (h3 : 0 ≤ c) (h4 : c ≤ 35) (h5 : 0 ≤ fa) (h6 : fa ≤ 3) : cl mX9_nextCell [vr 12, vi c, vi fa] (HP A F E) = some (vi (wnx (A 13 0) c fa), HP A F E) := by
  have w := hp_w (A := A) (F := F) (E := E) wad_12
  have e : wf (HP A F E) 12 = A 13 := w.2.2.2
  have := w_next (c := c) (fa := fa) w.1 (by rw [e]; exact h1) (by rw [e]; exact h2) h3 h4 h5 h6
  rw [e] at this
  exact this
theorem h12_place {c fa : Int} (h1 : 1 ≤ A 13 0) (h2 : A 13 0 ≤ 6) (h3 : 0 ≤ c) (h4 : c ≤ 35) (h5 : 0 ≤ fa) (h6 : fa ≤ 3) : cl mX9_placeOf [vr 12, vi c, vi fa] (HP A F E) = some (vi (wpl (A 13 0) c fa), HP A F E) := by
  have w := hp_w (A := A) (F := F) (E := E) wad_12
  have e : wf (HP A F E) 12 = A 13 := w.2.2.2
  have := w_place (c := c) (fa := fa) w.1 (by rw [e]; exact h1) (by rw [e]; exact h2) h3 h4 h5 h6
  rw [e] at this
  exact this
theorem h12_cellAt {ed p : Int} (h1 : 1 ≤ A 13 0) (h2 : A 13 0 ≤ 6) (h3 : 0 ≤ p) (h4 : p < A 13 0) (h5 : 0 ≤ ed) (h6 : ed ≤ 3) : cl mX9_cellAt [vr 12, vi ed, vi p] (HP A F E) = some (vi (wca (A 13 0) ed p), HP A F E) := by
  have w := hp_w (A := A) (F := F) (E := E) wad_12
  have e : wf (HP A F E) 12 = A 13 := w.2.2.2
  have := w_cellAt (ed := ed) (p := p) w.1 (by rw [e]; exact h1) (by rw [e]; exact h2) h3 (by rw [e]; exact h4) h5 h6
  rw [e] at this
  exact this
theorem h12_stone {j : Nat} (hj : j < 36) : cl mX9_hasStone [vr 12, vi (j : Int)] (HP A F E) = some (vi (if A 13 (11 + j) = 0 then 0 else 1), HP A F E) := by
  have w := hp_w (A := A) (F := F) (E := E) wad_12
  have e : wf (HP A F E) 12 = A 13 := w.2.2.2
  have := w_stone (c := (j : Int)) w.1 (by omega) (by omega)
  rw [e, show (11 + (j : Int)).toNat = 11 + j by omega] at this
  rw [this]
  by_cases z : A 13 (11 + j) = 0
  · rw [if_pos z, if_neg (fun q => q.2.2 z)]
  · rw [if_neg z, if_pos ⟨by omega, by omega, z⟩]
theorem c_sp_l (ho : wok f G) (hN : (N : Int) = f 0 * f 0) (hc : c < N) : ∀ (n fa : Nat) (A F : Nat → Nat → Int) (sh : Int) (x4 x5 : zV), fa + n = 4 → A 13 = f → (sh = 0 ∨ sh = 1) → ach (nxF f) (stF f) (okF f) N s 1000 (A 65) → ∃ T' sh', rn mX10_spreadFrom 4 [vr 1, vi (c : Int), vi sh, vi (fa : Int), x4, x5] [] (HP A F E) = some (vi sh', HP (aup A 65 T') F E) ∧ rpw (nxF f) (stF f) (okF f) N s 1000 (A 65) T' (fun a b => a = c ∧ fa ≤ b ∧ b < 4) ∧ flg N (A 65) T' sh sh' := by
  intro n
  induction n with
  | zero =>
    intro fa A F sh x4 x5 hk e13 hsh ha
    have : fa = 4 := by omega
    subst this
    refine ⟨A 65, sh, ?_, rpw_r (fun a b q => by omega), ?_⟩
    · rw [sX10_spreadFrom_4, aup_id]
      simp (disch := omega) only [eX10_spreadFrom, sX10_spreadFrom_0, sX10_spreadFrom_1, sX10_spreadFrom_2, sX10_spreadFrom_3, sX10_spreadFrom_5, sX10_spreadFrom_6, sX10_spreadFrom_9, sX10_spreadFrom_10, sX10_spreadFrom_13, sX10_spreadFrom_14, sX10_spreadFrom_15, sX10_spreadFrom_18, sX10_spreadFrom_20, sX10_spreadFrom_21, sX10_spreadFrom_23, sX10_spreadFrom_25, sX10_spreadFrom_26, sX10_spreadFrom_29, sX10_spreadFrom_30, sX10_spreadFrom_33, sX10_spreadFrom_34, sX10_spreadFrom_37, sX10_spreadFrom_38, sX10_spreadFrom_39, sX10_spreadFrom_40, sX10_spreadFrom_43, sX10_spreadFrom_44, sX10_spreadFrom_47, sX10_spreadFrom_48, sX10_spreadFrom_49, sX10_spreadFrom_52, sX10_spreadFrom_55, sX10_spreadFrom_57, sX10_spreadFrom_58, sX10_spreadFrom_61, sX10_spreadFrom_63, sX10_spreadFrom_64, sX10_spreadFrom_65, sX10_spreadFrom_68, sX10_spreadFrom_69, sX10_spreadFrom_70, sX10_spreadFrom_72, sX10_spreadFrom_73, sX10_spreadFrom_75, sX10_spreadFrom_78, sX10_spreadFrom_81, sX10_spreadFrom_82, sX10_spreadFrom_85, sX10_spreadFrom_87, sX10_spreadFrom_90, sX10_spreadFrom_93, sX10_spreadFrom_94, sX10_spreadFrom_97, sX10_spreadFrom_98, sX10_spreadFrom_99, sX10_spreadFrom_101, sX10_spreadFrom_102, sX10_spreadFrom_103, sX10_spreadFrom_106, sX10_spreadFrom_108, sX10_spreadFrom_109, sX10_spreadFrom_112, sX10_spreadFrom_113, sX10_spreadFrom_116, sX10_spreadFrom_118, sX10_spreadFrom_119, sX10_spreadFrom_122, sX10_spreadFrom_123, sX10_spreadFrom_124, sX10_spreadFrom_126, sX10_spreadFrom_127, sX10_spreadFrom_128, sX10_spreadFrom_129, sX10_spreadFrom_130, sX10_spreadFrom_133, sX10_spreadFrom_136, sX10_spreadFrom_137, ↓if_pos]
    · rcases hsh with q | q
      · exact Or.inl ⟨q, q, rfl⟩
      · exact Or.inr ⟨q, Or.inl q⟩
  | succ n ih =>
    intro fa A F sh x4 x5 hk e13 hsh ha
    have g := geo ho hN hc (show fa < 4 by omega)
    obtain ⟨h1, h2, h3, h4, h5, h6, h7⟩ := id ho
    have lb := h4 fa (by omega)
    have db := h5 fa (by omega)
    have tc := (ha.2 c hc).1
    have tn := (ha.2 (nxF f c fa) g.1).1
    have s1 : 1 ≤ A 13 0 ∧ A 13 0 ≤ 6 := by rw [e13]; exact h3
    have nx := h12_next (A := A) (F := F) (E := E) (c := (c : Int)) (fa := (fa : Int)) s1.1 s1.2 (by omega) (by omega) (by omega) (by omega)
    have pl := h12_place (A := A) (F := F) (E := E) (c := (c : Int)) (fa := (fa : Int)) s1.1 s1.2 (by omega) (by omega) (by omega) (by omega)
    have ca := h12_cellAt (A := A) (F := F) (E := E) (ed := f (3 + fa)) (p := wpl (f 0) c fa) s1.1 s1.2 g.2.2.2.2.2.2.1 (by rw [e13]; exact g.2.2.2.2.2.2.2) lb.1 lb.2
    have g3 := h_get (A := A) (F := F) (E := E) (i := 3 + (fa : Int)) wad_12 (by omega) (by omega)
    have g7 := h_get (A := A) (F := F) (E := E) (i := 7 + (fa : Int)) wad_12 (by omega) (by omega)
    simp only [Nat.reduceAdd, e13] at g3 g7
    rw [show (3 + (fa : Int)).toNat = 3 + fa by omega] at g3
    rw [show (7 + (fa : Int)).toNat = 7 + fa by omega] at g7
    rw [e13] at nx pl ca
    have ic := E_isCell (A := A) (F := F) (E := E) (c := (nxF f c fa : Int)) (by omega) s1.2
    rw [e13, ← hN, if_pos (by omega)] at ic
    have hs := h12_stone (A := A) (F := F) (E := E) (j := nxF f c fa) (by omega)
    rw [e13] at hs
    have m1 : rn mX10_spreadFrom 4 [vr 1, vi (c : Int), vi sh, vi (fa : Int), x4, x5] [] (HP A F E) = rn mX10_spreadFrom 72 [vr 1, vi (c : Int), vi sh, vi (fa : Int), vi (nxF f c fa : Int), vi (stF f c fa : Int)] [] (HP A F E) := by
      rw [sX10_spreadFrom_4]
      by_cases z : wnx (f 0) c fa = -1
      · have e1 : (nxF f c fa : Int) = wca (f 0) (f (3 + fa)) (wpl (f 0) c fa) := by unfold nxF; rw [if_pos z]; omega
        have e2 : (stF f c fa : Int) = f (7 + fa) + 2 := by unfold stF; rw [if_pos z]; omega
        rw [e1, e2]
        simp (disch := omega) only [eX10_spreadFrom, sX10_spreadFrom_0, sX10_spreadFrom_1, sX10_spreadFrom_2, sX10_spreadFrom_3, sX10_spreadFrom_5, sX10_spreadFrom_6, sX10_spreadFrom_9, sX10_spreadFrom_10, sX10_spreadFrom_13, sX10_spreadFrom_14, sX10_spreadFrom_15, sX10_spreadFrom_18, sX10_spreadFrom_20, sX10_spreadFrom_21, sX10_spreadFrom_23, sX10_spreadFrom_25, sX10_spreadFrom_26, sX10_spreadFrom_29, sX10_spreadFrom_30, sX10_spreadFrom_33, sX10_spreadFrom_34, sX10_spreadFrom_37, sX10_spreadFrom_38, sX10_spreadFrom_39, sX10_spreadFrom_40, sX10_spreadFrom_43, sX10_spreadFrom_44, sX10_spreadFrom_47, sX10_spreadFrom_48, sX10_spreadFrom_49, sX10_spreadFrom_52, sX10_spreadFrom_55, sX10_spreadFrom_57, sX10_spreadFrom_58, sX10_spreadFrom_61, sX10_spreadFrom_63, sX10_spreadFrom_64, sX10_spreadFrom_65, sX10_spreadFrom_68, sX10_spreadFrom_69, sX10_spreadFrom_70, sX10_spreadFrom_73, sX10_spreadFrom_75, sX10_spreadFrom_78, sX10_spreadFrom_81, sX10_spreadFrom_82, sX10_spreadFrom_85, sX10_spreadFrom_87, sX10_spreadFrom_90, sX10_spreadFrom_93, sX10_spreadFrom_94, sX10_spreadFrom_97, sX10_spreadFrom_98, sX10_spreadFrom_99, sX10_spreadFrom_101, sX10_spreadFrom_102, sX10_spreadFrom_103, sX10_spreadFrom_106, sX10_spreadFrom_108, sX10_spreadFrom_109, sX10_spreadFrom_112, sX10_spreadFrom_113, sX10_spreadFrom_116, sX10_spreadFrom_118, sX10_spreadFrom_119, sX10_spreadFrom_122, sX10_spreadFrom_123, sX10_spreadFrom_124, sX10_spreadFrom_126, sX10_spreadFrom_127, sX10_spreadFrom_128, sX10_spreadFrom_129, sX10_spreadFrom_130, sX10_spreadFrom_133, sX10_spreadFrom_136, sX10_spreadFrom_137, ↓hk1, ↓hf1_8, ↓hk12, ↓bndi_at nx, ↓bndi_at pl, ↓bndi_at ca, ↓bndi_at g3, ↓bndi_at g7, z, i32_of, ↓if_pos, ↓if_neg]
      · have e1 : (nxF f c fa : Int) = wnx (f 0) c fa := by unfold nxF; rw [if_neg z]; omega
        have e2 : (stF f c fa : Int) = 1 := by unfold stF; rw [if_neg z]; rfl
        rw [e1, e2]
        simp (disch := omega) only [eX10_spreadFrom, sX10_spreadFrom_0, sX10_spreadFrom_1, sX10_spreadFrom_2, sX10_spreadFrom_3, sX10_spreadFrom_5, sX10_spreadFrom_6, sX10_spreadFrom_9, sX10_spreadFrom_10, sX10_spreadFrom_13, sX10_spreadFrom_14, sX10_spreadFrom_15, sX10_spreadFrom_18, sX10_spreadFrom_20, sX10_spreadFrom_21, sX10_spreadFrom_23, sX10_spreadFrom_25, sX10_spreadFrom_26, sX10_spreadFrom_29, sX10_spreadFrom_30, sX10_spreadFrom_33, sX10_spreadFrom_34, sX10_spreadFrom_37, sX10_spreadFrom_38, sX10_spreadFrom_39, sX10_spreadFrom_40, sX10_spreadFrom_43, sX10_spreadFrom_44, sX10_spreadFrom_47, sX10_spreadFrom_48, sX10_spreadFrom_49, sX10_spreadFrom_52, sX10_spreadFrom_55, sX10_spreadFrom_57, sX10_spreadFrom_58, sX10_spreadFrom_61, sX10_spreadFrom_63, sX10_spreadFrom_64, sX10_spreadFrom_65, sX10_spreadFrom_68, sX10_spreadFrom_69, sX10_spreadFrom_70, sX10_spreadFrom_73, sX10_spreadFrom_75, sX10_spreadFrom_78, sX10_spreadFrom_81, sX10_spreadFrom_82, sX10_spreadFrom_85, sX10_spreadFrom_87, sX10_spreadFrom_90, sX10_spreadFrom_93, sX10_spreadFrom_94, sX10_spreadFrom_97, sX10_spreadFrom_98, sX10_spreadFrom_99, sX10_spreadFrom_101, sX10_spreadFrom_102, sX10_spreadFrom_103, sX10_spreadFrom_106, sX10_spreadFrom_108, sX10_spreadFrom_109, sX10_spreadFrom_112, sX10_spreadFrom_113, sX10_spreadFrom_116, sX10_spreadFrom_118, sX10_spreadFrom_119, sX10_spreadFrom_122, sX10_spreadFrom_123, sX10_spreadFrom_124, sX10_spreadFrom_126, sX10_spreadFrom_127, sX10_spreadFrom_128, sX10_spreadFrom_129, sX10_spreadFrom_130, sX10_spreadFrom_133, sX10_spreadFrom_136, sX10_spreadFrom_137, ↓hk1, ↓hf1_8, ↓hk12, ↓bndi_at nx, ↓if_pos, ↓if_neg]
    have rp := rlx_p (nx := nxF f) (st := stF f) (ok := okF f) (N := N) (s := s) (K := 1000) (T := A 65) g.2.1 hc (show fa < 4 by omega) g.1
    have m2 : ∃ sh1, (sh1 = 0 ∨ sh1 = 1) ∧ flg N (A 65) (rlx (nxF f) (stF f) (okF f) c fa (A 65)) sh sh1 ∧ rn mX10_spreadFrom 72 [vr 1, vi (c : Int), vi sh, vi (fa : Int), vi (nxF f c fa : Int), vi (stF f c fa : Int)] [] (HP A F E) = rn mX10_spreadFrom 4 [vr 1, vi (c : Int), vi sh1, vi ((fa + 1 : Nat) : Int), vi (nxF f c fa : Int), vi (stF f c fa : Int)] [] (HP (aup A 65 (rlx (nxF f) (stF f) (okF f) c fa (A 65))) F E) := by
      by_cases z : f (11 + nxF f c fa) = 0
      · rw [if_pos z] at hs
        by_cases y : A 65 c + (stF f c fa : Int) < A 65 (nxF f c fa)
        · refine ⟨1, Or.inr rfl, Or.inr ⟨rfl, Or.inr ?_⟩, ?_⟩
          · refine sumN_lt rp.1 (v := nxF f c fa) ?_ N g.1
            unfold rlx
            rw [if_pos ⟨decide_eq_true z, y⟩, fup_s]
            exact y
          · unfold rlx
            rw [if_pos ⟨decide_eq_true z, y⟩]
            simp (disch := omega) only [eX10_spreadFrom, sX10_spreadFrom_0, sX10_spreadFrom_1, sX10_spreadFrom_2, sX10_spreadFrom_3, sX10_spreadFrom_5, sX10_spreadFrom_6, sX10_spreadFrom_9, sX10_spreadFrom_10, sX10_spreadFrom_13, sX10_spreadFrom_14, sX10_spreadFrom_15, sX10_spreadFrom_18, sX10_spreadFrom_20, sX10_spreadFrom_21, sX10_spreadFrom_23, sX10_spreadFrom_25, sX10_spreadFrom_26, sX10_spreadFrom_29, sX10_spreadFrom_30, sX10_spreadFrom_33, sX10_spreadFrom_34, sX10_spreadFrom_37, sX10_spreadFrom_38, sX10_spreadFrom_39, sX10_spreadFrom_40, sX10_spreadFrom_43, sX10_spreadFrom_44, sX10_spreadFrom_47, sX10_spreadFrom_48, sX10_spreadFrom_49, sX10_spreadFrom_52, sX10_spreadFrom_55, sX10_spreadFrom_57, sX10_spreadFrom_58, sX10_spreadFrom_61, sX10_spreadFrom_63, sX10_spreadFrom_64, sX10_spreadFrom_65, sX10_spreadFrom_68, sX10_spreadFrom_69, sX10_spreadFrom_70, sX10_spreadFrom_72, sX10_spreadFrom_73, sX10_spreadFrom_75, sX10_spreadFrom_78, sX10_spreadFrom_81, sX10_spreadFrom_82, sX10_spreadFrom_85, sX10_spreadFrom_87, sX10_spreadFrom_90, sX10_spreadFrom_93, sX10_spreadFrom_94, sX10_spreadFrom_97, sX10_spreadFrom_98, sX10_spreadFrom_99, sX10_spreadFrom_101, sX10_spreadFrom_102, sX10_spreadFrom_103, sX10_spreadFrom_106, sX10_spreadFrom_108, sX10_spreadFrom_109, sX10_spreadFrom_112, sX10_spreadFrom_113, sX10_spreadFrom_116, sX10_spreadFrom_118, sX10_spreadFrom_119, sX10_spreadFrom_122, sX10_spreadFrom_123, sX10_spreadFrom_124, sX10_spreadFrom_126, sX10_spreadFrom_127, sX10_spreadFrom_128, sX10_spreadFrom_129, sX10_spreadFrom_130, sX10_spreadFrom_133, sX10_spreadFrom_137, ↓hk1, ↓hf1_8, ↓hf1_15, ↓hk12, ↓bndi_at ic, ↓bndi_at hs, ↓hg65, ↓hs65, Int.toNat_natCast, i32_of, ↓if_pos, ↓if_neg]
            rfl
        · have e : rlx (nxF f) (stF f) (okF f) c fa (A 65) = A 65 := by unfold rlx; rw [if_neg (fun q => y q.2)]
          refine ⟨sh, hsh, ?_, ?_⟩
          · rcases hsh with q | q
            · exact Or.inl ⟨q, q, e⟩
            · exact Or.inr ⟨q, Or.inl q⟩
          · rw [e, aup_id]
            simp (disch := omega) only [eX10_spreadFrom, sX10_spreadFrom_0, sX10_spreadFrom_1, sX10_spreadFrom_2, sX10_spreadFrom_3, sX10_spreadFrom_5, sX10_spreadFrom_6, sX10_spreadFrom_9, sX10_spreadFrom_10, sX10_spreadFrom_13, sX10_spreadFrom_14, sX10_spreadFrom_15, sX10_spreadFrom_18, sX10_spreadFrom_20, sX10_spreadFrom_21, sX10_spreadFrom_23, sX10_spreadFrom_25, sX10_spreadFrom_26, sX10_spreadFrom_29, sX10_spreadFrom_30, sX10_spreadFrom_33, sX10_spreadFrom_34, sX10_spreadFrom_37, sX10_spreadFrom_38, sX10_spreadFrom_39, sX10_spreadFrom_40, sX10_spreadFrom_43, sX10_spreadFrom_44, sX10_spreadFrom_47, sX10_spreadFrom_48, sX10_spreadFrom_49, sX10_spreadFrom_52, sX10_spreadFrom_55, sX10_spreadFrom_57, sX10_spreadFrom_58, sX10_spreadFrom_61, sX10_spreadFrom_63, sX10_spreadFrom_64, sX10_spreadFrom_65, sX10_spreadFrom_68, sX10_spreadFrom_69, sX10_spreadFrom_70, sX10_spreadFrom_72, sX10_spreadFrom_73, sX10_spreadFrom_75, sX10_spreadFrom_78, sX10_spreadFrom_81, sX10_spreadFrom_82, sX10_spreadFrom_85, sX10_spreadFrom_87, sX10_spreadFrom_90, sX10_spreadFrom_93, sX10_spreadFrom_94, sX10_spreadFrom_97, sX10_spreadFrom_98, sX10_spreadFrom_99, sX10_spreadFrom_101, sX10_spreadFrom_102, sX10_spreadFrom_103, sX10_spreadFrom_106, sX10_spreadFrom_108, sX10_spreadFrom_109, sX10_spreadFrom_112, sX10_spreadFrom_113, sX10_spreadFrom_116, sX10_spreadFrom_118, sX10_spreadFrom_119, sX10_spreadFrom_122, sX10_spreadFrom_123, sX10_spreadFrom_124, sX10_spreadFrom_126, sX10_spreadFrom_127, sX10_spreadFrom_128, sX10_spreadFrom_129, sX10_spreadFrom_130, sX10_spreadFrom_133, sX10_spreadFrom_137, ↓hk1, ↓hf1_8, ↓hf1_15, ↓hk12, ↓bndi_at ic, ↓bndi_at hs, ↓hg65, ↓hs65, Int.toNat_natCast, i32_of, ↓if_pos, ↓if_neg]
            rfl
      · rw [if_neg z] at hs
        have e : rlx (nxF f) (stF f) (okF f) c fa (A 65) = A 65 := by unfold rlx; rw [if_neg (fun q => z (of_decide_eq_true q.1))]
        refine ⟨sh, hsh, ?_, ?_⟩
        · rcases hsh with q | q
          · exact Or.inl ⟨q, q, e⟩
          · exact Or.inr ⟨q, Or.inl q⟩
        · rw [e, aup_id]
          simp (disch := omega) only [eX10_spreadFrom, sX10_spreadFrom_0, sX10_spreadFrom_1, sX10_spreadFrom_2, sX10_spreadFrom_3, sX10_spreadFrom_5, sX10_spreadFrom_6, sX10_spreadFrom_9, sX10_spreadFrom_10, sX10_spreadFrom_13, sX10_spreadFrom_14, sX10_spreadFrom_15, sX10_spreadFrom_18, sX10_spreadFrom_20, sX10_spreadFrom_21, sX10_spreadFrom_23, sX10_spreadFrom_25, sX10_spreadFrom_26, sX10_spreadFrom_29, sX10_spreadFrom_30, sX10_spreadFrom_33, sX10_spreadFrom_34, sX10_spreadFrom_37, sX10_spreadFrom_38, sX10_spreadFrom_39, sX10_spreadFrom_40, sX10_spreadFrom_43, sX10_spreadFrom_44, sX10_spreadFrom_47, sX10_spreadFrom_48, sX10_spreadFrom_49, sX10_spreadFrom_52, sX10_spreadFrom_55, sX10_spreadFrom_57, sX10_spreadFrom_58, sX10_spreadFrom_61, sX10_spreadFrom_63, sX10_spreadFrom_64, sX10_spreadFrom_65, sX10_spreadFrom_68, sX10_spreadFrom_69, sX10_spreadFrom_70, sX10_spreadFrom_72, sX10_spreadFrom_73, sX10_spreadFrom_75, sX10_spreadFrom_78, sX10_spreadFrom_81, sX10_spreadFrom_82, sX10_spreadFrom_85, sX10_spreadFrom_87, sX10_spreadFrom_90, sX10_spreadFrom_93, sX10_spreadFrom_94, sX10_spreadFrom_97, sX10_spreadFrom_98, sX10_spreadFrom_99, sX10_spreadFrom_101, sX10_spreadFrom_102, sX10_spreadFrom_103, sX10_spreadFrom_106, sX10_spreadFrom_108, sX10_spreadFrom_109, sX10_spreadFrom_112, sX10_spreadFrom_113, sX10_spreadFrom_116, sX10_spreadFrom_118, sX10_spreadFrom_119, sX10_spreadFrom_122, sX10_spreadFrom_123, sX10_spreadFrom_124, sX10_spreadFrom_126, sX10_spreadFrom_127, sX10_spreadFrom_128, sX10_spreadFrom_129, sX10_spreadFrom_130, sX10_spreadFrom_133, sX10_spreadFrom_137, ↓hk1, ↓hf1_8, ↓hf1_15, ↓hk12, ↓bndi_at ic, ↓bndi_at hs, Int.toNat_natCast, i32_of, ↓if_pos, ↓if_neg]
          rfl
    obtain ⟨sh1, b1, b2, b3⟩ := m2
    obtain ⟨T', sh', u1, u2, u3⟩ := ih (fa + 1) (aup A 65 (rlx (nxF f) (stF f) (okF f) c fa (A 65))) F sh1 (vi (nxF f c fa : Int)) (vi (stF f c fa : Int)) (by omega) (by rw [aup_n (by omega)]; exact e13) b1 (by rw [aup_s]; exact rp.2.2 ha)
    rw [aup_aup] at u1
    rw [aup_s] at u2 u3
    exact ⟨T', sh', by rw [m1, b3, u1], rpw_t rp u2 (fun a b q => by by_cases y : b = fa; exact Or.inl ⟨q.1, y⟩; exact Or.inr ⟨q.1, by omega, q.2.2⟩), flg_t rp.1 u2.1 b2 u3⟩
theorem c_spread (ho : wok f G) (hN : (N : Int) = f 0 * f 0) (hc : c < N) (e13 : A 13 = f) (ha : ach (nxF f) (stF f) (okF f) N s 1000 (A 65)) : ∃ T' sh', cl mX10_spreadFrom [vr 1, vi (c : Int)] (HP A F E) = some (vi sh', HP (aup A 65 T') F E) ∧ rpw (nxF f) (stF f) (okF f) N s 1000 (A 65) T' (fun a b => a = c ∧ b < 4) ∧ flg N (A 65) T' 0 sh' := by
  obtain ⟨T', sh', u1, u2, u3⟩ := c_sp_l (E := E) (s := s) ho hN hc 4 0 A F 0 vn vn (by omega) e13 (Or.inl rfl) ha
  have u1' : rn mX10_spreadFrom 4 [vr 1, vi (c : Int), vi 0, vi 0, vn, vn] [] (HP A F E) = _ := u1
  refine ⟨T', sh', ?_, ⟨u2.1, fun a b q => u2.2.1 a b ⟨q.1, by omega, q.2⟩, u2.2.2⟩, u3⟩
  rw [← u1']
  simp only [eX10_spreadFrom, sX10_spreadFrom_0, sX10_spreadFrom_1, sX10_spreadFrom_2, sX10_spreadFrom_3, sX10_spreadFrom_5, sX10_spreadFrom_6, sX10_spreadFrom_9, sX10_spreadFrom_10, sX10_spreadFrom_13, sX10_spreadFrom_14, sX10_spreadFrom_15, sX10_spreadFrom_18, sX10_spreadFrom_20, sX10_spreadFrom_21, sX10_spreadFrom_23, sX10_spreadFrom_25, sX10_spreadFrom_26, sX10_spreadFrom_29, sX10_spreadFrom_30, sX10_spreadFrom_33, sX10_spreadFrom_34, sX10_spreadFrom_37, sX10_spreadFrom_38, sX10_spreadFrom_39, sX10_spreadFrom_40, sX10_spreadFrom_43, sX10_spreadFrom_44, sX10_spreadFrom_47, sX10_spreadFrom_48, sX10_spreadFrom_49, sX10_spreadFrom_52, sX10_spreadFrom_55, sX10_spreadFrom_57, sX10_spreadFrom_58, sX10_spreadFrom_61, sX10_spreadFrom_63, sX10_spreadFrom_64, sX10_spreadFrom_65, sX10_spreadFrom_68, sX10_spreadFrom_69, sX10_spreadFrom_70, sX10_spreadFrom_72, sX10_spreadFrom_73, sX10_spreadFrom_75, sX10_spreadFrom_78, sX10_spreadFrom_81, sX10_spreadFrom_82, sX10_spreadFrom_85, sX10_spreadFrom_87, sX10_spreadFrom_90, sX10_spreadFrom_93, sX10_spreadFrom_94, sX10_spreadFrom_97, sX10_spreadFrom_98, sX10_spreadFrom_99, sX10_spreadFrom_101, sX10_spreadFrom_102, sX10_spreadFrom_103, sX10_spreadFrom_106, sX10_spreadFrom_108, sX10_spreadFrom_109, sX10_spreadFrom_112, sX10_spreadFrom_113, sX10_spreadFrom_116, sX10_spreadFrom_118, sX10_spreadFrom_119, sX10_spreadFrom_122, sX10_spreadFrom_123, sX10_spreadFrom_124, sX10_spreadFrom_126, sX10_spreadFrom_127, sX10_spreadFrom_128, sX10_spreadFrom_129, sX10_spreadFrom_130, sX10_spreadFrom_133, sX10_spreadFrom_136, sX10_spreadFrom_137]
theorem or_dec : q2 (· ||| ·) 0 0 = 0 ∧ q2 (· ||| ·) 0 1 = 1 ∧ q2 (· ||| ·) 1 0 = 1 ∧ q2 (· ||| ·) 1 1 = 1 := by decide +kernel
theorem c_ps_l {k : Int} (ho : wok f G) (hN : (N : Int) = f 0 * f 0) : ∀ (n c : Nat) (A F : Nat → Nat → Int) (sh : Int), c + n = N → A 13 = f → (sh = 0 ∨ sh = 1) → ach (nxF f) (stF f) (okF f) N s 1000 (A 65) → ∃ T' sh', rn mX10_findWaysFrom 59 [vr 1, vi (s : Int), vi (N : Int), vi sh, vi k, vi (c : Int)] [] (HP A F E) = rn mX10_findWaysFrom 80 [vr 1, vi (s : Int), vi (N : Int), vi sh', vi k, vi (N : Int)] [] (HP (aup A 65 T') F E) ∧ rpw (nxF f) (stF f) (okF f) N s 1000 (A 65) T' (fun a b => c ≤ a ∧ a < N ∧ b < 4) ∧ flg N (A 65) T' sh sh' := by
  have N6 : N ≤ 36 := by have := sq_b (s := f 0) (by have := ho.2.2.1; omega) ho.2.2.1.2; omega
  intro n
  induction n with
  | zero =>
    intro c A F sh hk e13 hsh ha
    have : c = N := by omega
    subst this
    refine ⟨A 65, sh, ?_, rpw_r (fun a b q => by omega), ?_⟩
    · rw [sX10_findWaysFrom_59, aup_id]
      simp (disch := omega) only [eX10_findWaysFrom, sX10_findWaysFrom_0, sX10_findWaysFrom_1, sX10_findWaysFrom_4, sX10_findWaysFrom_7, sX10_findWaysFrom_8, sX10_findWaysFrom_9, sX10_findWaysFrom_11, sX10_findWaysFrom_12, sX10_findWaysFrom_15, sX10_findWaysFrom_16, sX10_findWaysFrom_19, sX10_findWaysFrom_20, sX10_findWaysFrom_21, sX10_findWaysFrom_22, sX10_findWaysFrom_25, sX10_findWaysFrom_26, sX10_findWaysFrom_29, sX10_findWaysFrom_32, sX10_findWaysFrom_33, sX10_findWaysFrom_36, sX10_findWaysFrom_39, sX10_findWaysFrom_40, sX10_findWaysFrom_41, sX10_findWaysFrom_42, sX10_findWaysFrom_46, sX10_findWaysFrom_47, sX10_findWaysFrom_50, sX10_findWaysFrom_51, sX10_findWaysFrom_54, sX10_findWaysFrom_55, sX10_findWaysFrom_56, sX10_findWaysFrom_57, sX10_findWaysFrom_61, sX10_findWaysFrom_62, sX10_findWaysFrom_65, sX10_findWaysFrom_66, sX10_findWaysFrom_67, sX10_findWaysFrom_69, sX10_findWaysFrom_72, sX10_findWaysFrom_73, sX10_findWaysFrom_74, sX10_findWaysFrom_77, sX10_findWaysFrom_83, sX10_findWaysFrom_86, ↓if_pos]
    · rcases hsh with q | q
      · exact Or.inl ⟨q, q, rfl⟩
      · exact Or.inr ⟨q, Or.inl q⟩
  | succ n ih =>
    intro c A F sh hk e13 hsh ha
    obtain ⟨T1, z, t1, t2, t3⟩ := c_spread (E := E) (F := F) (c := c) ho hN (by omega) e13 ha
    have m2 : ∃ sh1, (sh1 = 0 ∨ sh1 = 1) ∧ flg N (A 65) T1 sh sh1 ∧ q2 (· ||| ·) sh z = sh1 := by
      rcases t3 with ⟨a1, a2, a3⟩ | ⟨a1, a2⟩
      · rcases hsh with q | q
        · exact ⟨0, Or.inl rfl, Or.inl ⟨rfl, q, a3⟩, by rw [q, a1]; exact or_dec.1⟩
        · exact ⟨1, Or.inr rfl, Or.inr ⟨rfl, Or.inl q⟩, by rw [q, a1]; exact or_dec.2.2.1⟩
      · have a3 : sumN T1 N < sumN (A 65) N := by
          rcases a2 with a2 | a2
          · omega
          · exact a2
        rcases hsh with q | q
        · exact ⟨1, Or.inr rfl, Or.inr ⟨rfl, Or.inr a3⟩, by rw [q, a1]; exact or_dec.2.1⟩
        · exact ⟨1, Or.inr rfl, Or.inr ⟨rfl, Or.inl q⟩, by rw [q, a1]; exact or_dec.2.2.2⟩
    obtain ⟨sh1, b1, b2, b3⟩ := m2
    obtain ⟨T', sh', u1, u2, u3⟩ := ih (c + 1) (aup A 65 T1) F sh1 (by omega) (by rw [aup_n (by omega)]; exact e13) b1 (by rw [aup_s]; exact t2.2.2 ha)
    rw [aup_aup] at u1
    rw [aup_s] at u2 u3
    refine ⟨T', sh', ?_, rpw_t t2 u2 (fun a b q => by by_cases y : a = c; exact Or.inl ⟨y, q.2.2⟩; exact Or.inr ⟨by omega, q.2⟩), flg_t t2.1 u2.1 b2 u3⟩
    rw [← u1, sX10_findWaysFrom_59]
    simp (disch := omega) only [eX10_findWaysFrom, sX10_findWaysFrom_0, sX10_findWaysFrom_1, sX10_findWaysFrom_4, sX10_findWaysFrom_7, sX10_findWaysFrom_8, sX10_findWaysFrom_9, sX10_findWaysFrom_11, sX10_findWaysFrom_12, sX10_findWaysFrom_15, sX10_findWaysFrom_16, sX10_findWaysFrom_19, sX10_findWaysFrom_20, sX10_findWaysFrom_21, sX10_findWaysFrom_22, sX10_findWaysFrom_25, sX10_findWaysFrom_26, sX10_findWaysFrom_29, sX10_findWaysFrom_32, sX10_findWaysFrom_33, sX10_findWaysFrom_36, sX10_findWaysFrom_39, sX10_findWaysFrom_40, sX10_findWaysFrom_41, sX10_findWaysFrom_42, sX10_findWaysFrom_46, sX10_findWaysFrom_47, sX10_findWaysFrom_50, sX10_findWaysFrom_51, sX10_findWaysFrom_54, sX10_findWaysFrom_55, sX10_findWaysFrom_56, sX10_findWaysFrom_57, sX10_findWaysFrom_61, sX10_findWaysFrom_62, sX10_findWaysFrom_65, sX10_findWaysFrom_66, sX10_findWaysFrom_67, sX10_findWaysFrom_69, sX10_findWaysFrom_72, sX10_findWaysFrom_73, sX10_findWaysFrom_74, sX10_findWaysFrom_77, sX10_findWaysFrom_83, sX10_findWaysFrom_86, ↓hk1, ↓bndi_at t1, b3, i32_s, ↓if_neg]
theorem c_wy_l (ho : wok f G) (hN : (N : Int) = f 0 * f 0) : ∀ (n k : Nat) (A F : Nat → Nat → Int) (sh : Int) (x5 : zV), k + n = N → A 13 = f → (sh = 0 ∨ sh = 1) → ach (nxF f) (stF f) (okF f) N s 1000 (A 65) → ivw (nxF f) (stF f) (okF f) N s 1000 (A 65) k → (sh = 0 → ∀ v, swy (nxF f) (stF f) (okF f) N s 1000 (A 65) v) → ∃ T', rn mX10_findWaysFrom 44 [vr 1, vi (s : Int), vi (N : Int), vi sh, vi (k : Int), x5] [] (HP A F E) = some (vn, HP (aup A 65 T') F E) ∧ ach (nxF f) (stF f) (okF f) N s 1000 T' ∧ ∀ v, swy (nxF f) (stF f) (okF f) N s 1000 T' v := by
  have N6 : N ≤ 36 := by have := sq_b (s := f 0) (by have := ho.2.2.1; omega) ho.2.2.1.2; omega
  intro n
  induction n with
  | zero =>
    intro k A F sh x5 hk e13 hsh ha hi hf
    have : k = N := by omega
    subst this
    refine ⟨A 65, ?_, ha, ivw_N hi⟩
    rw [sX10_findWaysFrom_44, aup_id]
    simp (disch := omega) only [eX10_findWaysFrom, sX10_findWaysFrom_0, sX10_findWaysFrom_1, sX10_findWaysFrom_4, sX10_findWaysFrom_7, sX10_findWaysFrom_8, sX10_findWaysFrom_9, sX10_findWaysFrom_11, sX10_findWaysFrom_12, sX10_findWaysFrom_15, sX10_findWaysFrom_16, sX10_findWaysFrom_19, sX10_findWaysFrom_20, sX10_findWaysFrom_21, sX10_findWaysFrom_22, sX10_findWaysFrom_25, sX10_findWaysFrom_26, sX10_findWaysFrom_29, sX10_findWaysFrom_32, sX10_findWaysFrom_33, sX10_findWaysFrom_36, sX10_findWaysFrom_39, sX10_findWaysFrom_40, sX10_findWaysFrom_41, sX10_findWaysFrom_42, sX10_findWaysFrom_46, sX10_findWaysFrom_47, sX10_findWaysFrom_50, sX10_findWaysFrom_51, sX10_findWaysFrom_54, sX10_findWaysFrom_55, sX10_findWaysFrom_56, sX10_findWaysFrom_57, sX10_findWaysFrom_61, sX10_findWaysFrom_62, sX10_findWaysFrom_65, sX10_findWaysFrom_66, sX10_findWaysFrom_67, sX10_findWaysFrom_69, sX10_findWaysFrom_72, sX10_findWaysFrom_73, sX10_findWaysFrom_74, sX10_findWaysFrom_77, sX10_findWaysFrom_80, sX10_findWaysFrom_83, sX10_findWaysFrom_86, ↓if_pos]
  | succ n ih =>
    intro k A F sh x5 hk e13 hsh ha hi hf
    by_cases z : sh = 0
    · refine ⟨A 65, ?_, ha, hf z⟩
      rw [sX10_findWaysFrom_44, aup_id]
      simp (disch := omega) only [eX10_findWaysFrom, sX10_findWaysFrom_0, sX10_findWaysFrom_1, sX10_findWaysFrom_4, sX10_findWaysFrom_7, sX10_findWaysFrom_8, sX10_findWaysFrom_9, sX10_findWaysFrom_11, sX10_findWaysFrom_12, sX10_findWaysFrom_15, sX10_findWaysFrom_16, sX10_findWaysFrom_19, sX10_findWaysFrom_20, sX10_findWaysFrom_21, sX10_findWaysFrom_22, sX10_findWaysFrom_25, sX10_findWaysFrom_26, sX10_findWaysFrom_29, sX10_findWaysFrom_32, sX10_findWaysFrom_33, sX10_findWaysFrom_36, sX10_findWaysFrom_39, sX10_findWaysFrom_40, sX10_findWaysFrom_41, sX10_findWaysFrom_42, sX10_findWaysFrom_46, sX10_findWaysFrom_47, sX10_findWaysFrom_50, sX10_findWaysFrom_51, sX10_findWaysFrom_54, sX10_findWaysFrom_55, sX10_findWaysFrom_56, sX10_findWaysFrom_57, sX10_findWaysFrom_61, sX10_findWaysFrom_62, sX10_findWaysFrom_65, sX10_findWaysFrom_66, sX10_findWaysFrom_67, sX10_findWaysFrom_69, sX10_findWaysFrom_72, sX10_findWaysFrom_73, sX10_findWaysFrom_74, sX10_findWaysFrom_77, sX10_findWaysFrom_80, sX10_findWaysFrom_83, sX10_findWaysFrom_86, ↓if_pos, ↓if_neg]
    · obtain ⟨T1, sh1, t1, t2, t3⟩ := c_ps_l (E := E) (s := s) (k := (k : Int)) ho hN N 0 A F 0 (by omega) e13 (Or.inl rfl) ha
      have t1' : rn mX10_findWaysFrom 59 [vr 1, vi (s : Int), vi (N : Int), vi 0, vi (k : Int), vi 0] [] (HP A F E) = _ := t1
      have t2' : rpw (nxF f) (stF f) (okF f) N s 1000 (A 65) T1 (fun a b => a < N ∧ b < 4) := ⟨t2.1, fun a b q => t2.2.1 a b ⟨by omega, q.1, q.2⟩, t2.2.2⟩
      have h0 : A 65 s ≤ 0 := Int.le_of_eq ha.1
      obtain ⟨T', u1, u2, u3⟩ := ih (k + 1) (aup A 65 T1) F sh1 (vi (N : Int)) (by omega) (by rw [aup_n (by omega)]; exact e13) (by rcases t3 with ⟨q, _⟩ | ⟨q, _⟩; exact Or.inl q; exact Or.inr q) (by rw [aup_s]; exact t2.2.2 ha) (by rw [aup_s]; exact ivw_s h0 (fun a b q1 q2' => (geo ho hN q1 q2').2.1) (fun a b q1 q2' => (geo ho hN q1 q2').1) t2' hi) (fun q v => by
        rw [aup_s]
        rcases t3 with ⟨a1, a2, a3⟩ | ⟨a1, a2⟩
        · rw [a3] at t2' ⊢
          exact fun n d r hk2 => fix_stl h0 (fun a b q1 q2' q3 q4 => t2'.2.1 a b ⟨q1, q2'⟩ q3 q4) n v d r hk2
        · omega)
      rw [aup_aup] at u1
      refine ⟨T', ?_, u2, u3⟩
      rw [sX10_findWaysFrom_44]
      simp (disch := omega) only [eX10_findWaysFrom, sX10_findWaysFrom_0, sX10_findWaysFrom_1, sX10_findWaysFrom_4, sX10_findWaysFrom_7, sX10_findWaysFrom_8, sX10_findWaysFrom_9, sX10_findWaysFrom_11, sX10_findWaysFrom_12, sX10_findWaysFrom_15, sX10_findWaysFrom_16, sX10_findWaysFrom_19, sX10_findWaysFrom_20, sX10_findWaysFrom_21, sX10_findWaysFrom_22, sX10_findWaysFrom_25, sX10_findWaysFrom_26, sX10_findWaysFrom_29, sX10_findWaysFrom_32, sX10_findWaysFrom_33, sX10_findWaysFrom_36, sX10_findWaysFrom_39, sX10_findWaysFrom_40, sX10_findWaysFrom_41, sX10_findWaysFrom_42, sX10_findWaysFrom_46, sX10_findWaysFrom_47, sX10_findWaysFrom_50, sX10_findWaysFrom_51, sX10_findWaysFrom_54, sX10_findWaysFrom_55, sX10_findWaysFrom_56, sX10_findWaysFrom_57, sX10_findWaysFrom_61, sX10_findWaysFrom_62, sX10_findWaysFrom_65, sX10_findWaysFrom_66, sX10_findWaysFrom_67, sX10_findWaysFrom_69, sX10_findWaysFrom_72, sX10_findWaysFrom_73, sX10_findWaysFrom_74, sX10_findWaysFrom_77, sX10_findWaysFrom_83, sX10_findWaysFrom_86, ↓if_pos, ↓if_neg]
      rw [t1']
      simp (disch := omega) only [eX10_findWaysFrom, sX10_findWaysFrom_0, sX10_findWaysFrom_1, sX10_findWaysFrom_4, sX10_findWaysFrom_7, sX10_findWaysFrom_8, sX10_findWaysFrom_9, sX10_findWaysFrom_11, sX10_findWaysFrom_12, sX10_findWaysFrom_15, sX10_findWaysFrom_16, sX10_findWaysFrom_19, sX10_findWaysFrom_20, sX10_findWaysFrom_21, sX10_findWaysFrom_22, sX10_findWaysFrom_25, sX10_findWaysFrom_26, sX10_findWaysFrom_29, sX10_findWaysFrom_32, sX10_findWaysFrom_33, sX10_findWaysFrom_36, sX10_findWaysFrom_39, sX10_findWaysFrom_40, sX10_findWaysFrom_41, sX10_findWaysFrom_42, sX10_findWaysFrom_46, sX10_findWaysFrom_47, sX10_findWaysFrom_50, sX10_findWaysFrom_51, sX10_findWaysFrom_54, sX10_findWaysFrom_55, sX10_findWaysFrom_56, sX10_findWaysFrom_57, sX10_findWaysFrom_61, sX10_findWaysFrom_62, sX10_findWaysFrom_65, sX10_findWaysFrom_66, sX10_findWaysFrom_67, sX10_findWaysFrom_69, sX10_findWaysFrom_72, sX10_findWaysFrom_73, sX10_findWaysFrom_74, sX10_findWaysFrom_77, sX10_findWaysFrom_80, sX10_findWaysFrom_83, sX10_findWaysFrom_86, i32_s]
      exact u1
theorem c_wy_0 {x4 x5 : zV} (N6 : N ≤ 36) : ∀ (n c : Nat) (A F : Nat → Nat → Int), c + n = N → ∃ W, rn mX10_findWaysFrom 10 [vr 1, vi (s : Int), vi (N : Int), vi (c : Int), x4, x5] [] (HP A F E) = rn mX10_findWaysFrom 39 [vr 1, vi (s : Int), vi (N : Int), vi (N : Int), x4, x5] [] (HP (aup A 65 W) F E) ∧ ∀ j, W j = if c ≤ j ∧ j < N then (if j = s then 0 else 1000) else A 65 j := by
  intro n
  induction n with
  | zero =>
    intro c A F hk
    have : c = N := by omega
    subst this
    refine ⟨A 65, ?_, fun j => by rw [if_neg (by omega)]⟩
    rw [sX10_findWaysFrom_10, aup_id]
    simp (disch := omega) only [eX10_findWaysFrom, sX10_findWaysFrom_0, sX10_findWaysFrom_1, sX10_findWaysFrom_4, sX10_findWaysFrom_7, sX10_findWaysFrom_8, sX10_findWaysFrom_9, sX10_findWaysFrom_11, sX10_findWaysFrom_12, sX10_findWaysFrom_15, sX10_findWaysFrom_16, sX10_findWaysFrom_19, sX10_findWaysFrom_20, sX10_findWaysFrom_21, sX10_findWaysFrom_22, sX10_findWaysFrom_25, sX10_findWaysFrom_26, sX10_findWaysFrom_29, sX10_findWaysFrom_32, sX10_findWaysFrom_33, sX10_findWaysFrom_36, sX10_findWaysFrom_40, sX10_findWaysFrom_41, sX10_findWaysFrom_42, sX10_findWaysFrom_46, sX10_findWaysFrom_47, sX10_findWaysFrom_50, sX10_findWaysFrom_51, sX10_findWaysFrom_54, sX10_findWaysFrom_55, sX10_findWaysFrom_56, sX10_findWaysFrom_57, sX10_findWaysFrom_61, sX10_findWaysFrom_62, sX10_findWaysFrom_65, sX10_findWaysFrom_66, sX10_findWaysFrom_67, sX10_findWaysFrom_69, sX10_findWaysFrom_72, sX10_findWaysFrom_73, sX10_findWaysFrom_74, sX10_findWaysFrom_77, sX10_findWaysFrom_80, sX10_findWaysFrom_83, sX10_findWaysFrom_86, ↓if_pos]
  | succ n ih =>
    intro c A F hk
    obtain ⟨W, r1, r2⟩ := ih (c + 1) (aup A 65 (fup (A 65) c (if c = s then 0 else 1000))) F (by omega)
    rw [aup_aup] at r1
    refine ⟨W, ?_, fun j => ?_⟩
    · rw [← r1, sX10_findWaysFrom_10]
      by_cases z : c = s
      · rw [if_pos z]
        simp (disch := omega) only [eX10_findWaysFrom, sX10_findWaysFrom_0, sX10_findWaysFrom_1, sX10_findWaysFrom_4, sX10_findWaysFrom_7, sX10_findWaysFrom_8, sX10_findWaysFrom_9, sX10_findWaysFrom_11, sX10_findWaysFrom_12, sX10_findWaysFrom_15, sX10_findWaysFrom_16, sX10_findWaysFrom_19, sX10_findWaysFrom_20, sX10_findWaysFrom_21, sX10_findWaysFrom_22, sX10_findWaysFrom_25, sX10_findWaysFrom_26, sX10_findWaysFrom_29, sX10_findWaysFrom_32, sX10_findWaysFrom_33, sX10_findWaysFrom_36, sX10_findWaysFrom_40, sX10_findWaysFrom_41, sX10_findWaysFrom_42, sX10_findWaysFrom_46, sX10_findWaysFrom_47, sX10_findWaysFrom_50, sX10_findWaysFrom_51, sX10_findWaysFrom_54, sX10_findWaysFrom_55, sX10_findWaysFrom_56, sX10_findWaysFrom_57, sX10_findWaysFrom_61, sX10_findWaysFrom_62, sX10_findWaysFrom_65, sX10_findWaysFrom_66, sX10_findWaysFrom_67, sX10_findWaysFrom_69, sX10_findWaysFrom_72, sX10_findWaysFrom_73, sX10_findWaysFrom_74, sX10_findWaysFrom_77, sX10_findWaysFrom_80, sX10_findWaysFrom_83, sX10_findWaysFrom_86, ↓hf1_15, ↓hs65, Int.toNat_natCast, i32_s, ↓if_pos, ↓if_neg]
      · rw [if_neg z]
        simp (disch := omega) only [eX10_findWaysFrom, sX10_findWaysFrom_0, sX10_findWaysFrom_1, sX10_findWaysFrom_4, sX10_findWaysFrom_7, sX10_findWaysFrom_8, sX10_findWaysFrom_9, sX10_findWaysFrom_11, sX10_findWaysFrom_12, sX10_findWaysFrom_15, sX10_findWaysFrom_16, sX10_findWaysFrom_19, sX10_findWaysFrom_20, sX10_findWaysFrom_21, sX10_findWaysFrom_22, sX10_findWaysFrom_25, sX10_findWaysFrom_26, sX10_findWaysFrom_29, sX10_findWaysFrom_32, sX10_findWaysFrom_33, sX10_findWaysFrom_36, sX10_findWaysFrom_40, sX10_findWaysFrom_41, sX10_findWaysFrom_42, sX10_findWaysFrom_46, sX10_findWaysFrom_47, sX10_findWaysFrom_50, sX10_findWaysFrom_51, sX10_findWaysFrom_54, sX10_findWaysFrom_55, sX10_findWaysFrom_56, sX10_findWaysFrom_57, sX10_findWaysFrom_61, sX10_findWaysFrom_62, sX10_findWaysFrom_65, sX10_findWaysFrom_66, sX10_findWaysFrom_67, sX10_findWaysFrom_69, sX10_findWaysFrom_72, sX10_findWaysFrom_73, sX10_findWaysFrom_74, sX10_findWaysFrom_77, sX10_findWaysFrom_80, sX10_findWaysFrom_83, sX10_findWaysFrom_86, ↓hf1_15, ↓hs65, Int.toNat_natCast, i32_s, ↓if_pos, ↓if_neg]
    · rw [r2, aup_s]
      by_cases q : j = c
      · subst q; rw [if_neg (show ¬ (j + 1 ≤ j ∧ j < N) by omega), if_pos (show j ≤ j ∧ j < N by omega), fup_s]
      · by_cases q2' : c ≤ j ∧ j < N
        · rw [if_pos (by omega), if_pos q2']
        · rw [if_neg (by omega), if_neg q2', fup_n q]
theorem c_ways (ho : wok f G) (hN : (N : Int) = f 0 * f 0) (hs : s < N) (e13 : A 13 = f) : ∃ T', cl mX10_findWaysFrom [vr 1, vi (s : Int)] (HP A F E) = some (vn, HP (aup A 65 T') F E) ∧ ach (nxF f) (stF f) (okF f) N s 1000 T' ∧ ∀ v, swy (nxF f) (stF f) (okF f) N s 1000 T' v := by
  have N6 : N ≤ 36 := by have := sq_b (s := f 0) (by have := ho.2.2.1; omega) ho.2.2.1.2; omega
  have cs := h_cells (A := A) (F := F) (E := E) wad_12 (by show 0 ≤ A 13 0; rw [e13]; have := ho.2.2.1; omega) (by show A 13 0 ≤ 6; rw [e13]; exact ho.2.2.1.2)
  simp only [Nat.reduceAdd, e13, ← hN] at cs
  obtain ⟨W, w1, w2⟩ := c_wy_0 (E := E) (s := s) (x4 := vn) (x5 := vn) N6 N 0 A F (by omega)
  have w1' : rn mX10_findWaysFrom 10 [vr 1, vi (s : Int), vi (N : Int), vi 0, vn, vn] [] (HP A F E) = _ := w1
  have ha : ach (nxF f) (stF f) (okF f) N s 1000 W := by
    refine ⟨by rw [w2, if_pos ⟨by omega, hs⟩, if_pos rfl], fun c hc => ?_⟩
    rw [w2, if_pos ⟨by omega, hc⟩]
    by_cases y : c = s
    · rw [if_pos y]
      exact ⟨by omega, fun _ => ⟨0, 0, ⟨y, rfl⟩, rfl⟩⟩
    · rw [if_neg y]
      exact ⟨by omega, fun q => by omega⟩
  obtain ⟨T', u1, u2, u3⟩ := c_wy_l (E := E) (s := s) ho hN N 0 (aup A 65 W) F 1 vn (by omega) (by rw [aup_n (by omega)]; exact e13) (Or.inr rfl) (by rw [aup_s]; exact ha) (by rw [aup_s]; exact ivw_0 (Int.le_of_eq ha.1) hs) (fun q => by omega)
  rw [aup_aup] at u1
  have u1' : rn mX10_findWaysFrom 44 [vr 1, vi (s : Int), vi (N : Int), vi 1, vi 0, vn] [] (HP (aup A 65 W) F E) = _ := u1
  refine ⟨T', ?_, u2, u3⟩
  simp (disch := omega) only [eX10_findWaysFrom, sX10_findWaysFrom_0, sX10_findWaysFrom_1, sX10_findWaysFrom_4, sX10_findWaysFrom_7, sX10_findWaysFrom_8, sX10_findWaysFrom_9, sX10_findWaysFrom_11, sX10_findWaysFrom_12, sX10_findWaysFrom_15, sX10_findWaysFrom_16, sX10_findWaysFrom_19, sX10_findWaysFrom_20, sX10_findWaysFrom_21, sX10_findWaysFrom_22, sX10_findWaysFrom_25, sX10_findWaysFrom_26, sX10_findWaysFrom_29, sX10_findWaysFrom_32, sX10_findWaysFrom_33, sX10_findWaysFrom_36, sX10_findWaysFrom_40, sX10_findWaysFrom_41, sX10_findWaysFrom_42, sX10_findWaysFrom_46, sX10_findWaysFrom_47, sX10_findWaysFrom_50, sX10_findWaysFrom_51, sX10_findWaysFrom_54, sX10_findWaysFrom_55, sX10_findWaysFrom_56, sX10_findWaysFrom_57, sX10_findWaysFrom_61, sX10_findWaysFrom_62, sX10_findWaysFrom_65, sX10_findWaysFrom_66, sX10_findWaysFrom_67, sX10_findWaysFrom_69, sX10_findWaysFrom_72, sX10_findWaysFrom_73, sX10_findWaysFrom_74, sX10_findWaysFrom_77, sX10_findWaysFrom_80, sX10_findWaysFrom_83, sX10_findWaysFrom_86, ↓hf1_8, ↓hk12, ↓bndi_at cs]
  rw [w1']
  simp (disch := omega) only [eX10_findWaysFrom, sX10_findWaysFrom_0, sX10_findWaysFrom_1, sX10_findWaysFrom_4, sX10_findWaysFrom_7, sX10_findWaysFrom_8, sX10_findWaysFrom_9, sX10_findWaysFrom_11, sX10_findWaysFrom_12, sX10_findWaysFrom_15, sX10_findWaysFrom_16, sX10_findWaysFrom_19, sX10_findWaysFrom_20, sX10_findWaysFrom_21, sX10_findWaysFrom_22, sX10_findWaysFrom_25, sX10_findWaysFrom_26, sX10_findWaysFrom_29, sX10_findWaysFrom_32, sX10_findWaysFrom_33, sX10_findWaysFrom_36, sX10_findWaysFrom_39, sX10_findWaysFrom_40, sX10_findWaysFrom_41, sX10_findWaysFrom_42, sX10_findWaysFrom_46, sX10_findWaysFrom_47, sX10_findWaysFrom_50, sX10_findWaysFrom_51, sX10_findWaysFrom_54, sX10_findWaysFrom_55, sX10_findWaysFrom_56, sX10_findWaysFrom_57, sX10_findWaysFrom_61, sX10_findWaysFrom_62, sX10_findWaysFrom_65, sX10_findWaysFrom_66, sX10_findWaysFrom_67, sX10_findWaysFrom_69, sX10_findWaysFrom_72, sX10_findWaysFrom_73, sX10_findWaysFrom_74, sX10_findWaysFrom_77, sX10_findWaysFrom_80, sX10_findWaysFrom_83, sX10_findWaysFrom_86]
  exact u1'
end SP
