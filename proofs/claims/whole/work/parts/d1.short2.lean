/-! shortest, the model's side and the call -/
section SM
variable {A F : Nat → Nat → Int} {E : zE} {G N c s : Nat} {f : Nat → Int}
theorem m_nears {j : Nat} {d : Int} (hj : j < 36) : cl mX11_nears [vr 103, vi (j : Int), vi d] (HP A F E) = if ¬ A 113 (50 + j) = 1 ∧ d < A 116 j then some (vi 1, HP (aup A 116 (fup (A 116) j d)) F E) else some (vi 0, HP A F E) := by
  have is := m_isStone (A := A) (F := F) (E := E) (c := (j : Int)) (by omega) (by omega)
  rw [show (50 + (j : Int)).toNat = 50 + j by omega] at is
  by_cases z : A 113 (50 + j) = 1
  · rw [if_pos z] at is
    rw [if_neg (fun q => q.1 z)]
    simp (disch := omega) only [eX11_nears, sX11_nears_0, sX11_nears_1, sX11_nears_2, sX11_nears_5, sX11_nears_8, sX11_nears_9, sX11_nears_10, sX11_nears_13, sX11_nears_14, sX11_nears_15, sX11_nears_18, sX11_nears_19, sX11_nears_20, sX11_nears_21, sX11_nears_24, sX11_nears_25, sX11_nears_26, sX11_nears_27, sX11_nears_28, ↓hk103, ↓bndi_at is, ↓if_pos, ↓if_neg, ↓reduceIte, true_or, or_true]
  · rw [if_neg z] at is
    by_cases y : d < A 116 j
    · rw [if_pos ⟨z, y⟩]
      simp (disch := omega) only [eX11_nears, sX11_nears_0, sX11_nears_1, sX11_nears_2, sX11_nears_5, sX11_nears_8, sX11_nears_9, sX11_nears_10, sX11_nears_13, sX11_nears_14, sX11_nears_15, sX11_nears_18, sX11_nears_19, sX11_nears_20, sX11_nears_21, sX11_nears_24, sX11_nears_25, sX11_nears_26, sX11_nears_27, sX11_nears_28, ↓hk103, ↓hf103_26, ↓hg116, ↓hs116, Int.toNat_natCast, ↓bndi_at is, ↓if_pos, ↓if_neg, ↓reduceIte, true_or, or_true]
    · rw [if_neg (fun q => y q.2)]
      simp (disch := omega) only [eX11_nears, sX11_nears_0, sX11_nears_1, sX11_nears_2, sX11_nears_5, sX11_nears_8, sX11_nears_9, sX11_nears_10, sX11_nears_13, sX11_nears_14, sX11_nears_15, sX11_nears_18, sX11_nears_19, sX11_nears_20, sX11_nears_21, sX11_nears_24, sX11_nears_25, sX11_nears_26, sX11_nears_27, sX11_nears_28, ↓hk103, ↓hf103_26, ↓hg116, ↓hs116, Int.toNat_natCast, ↓bndi_at is, ↓if_pos, ↓if_neg, ↓reduceIte, true_or, or_true]
theorem m_goes {fa : Nat} (ho : wok f G) (sd : sdr (A 113) f) (hN : (N : Int) = f 0 * f 0) (hc : c < N) (hf : fa < 4) (ha : ach (nxF f) (stF f) (okF f) N s 100 (A 116)) : ∃ z, cl mX11_goesFrom [vr 103, vi (c : Int), vi (fa : Int)] (HP A F E) = some (vi z, HP (aup A 116 (rlx (nxF f) (stF f) (okF f) c fa (A 116))) F E) ∧ flg N (A 116) (rlx (nxF f) (stF f) (okF f) c fa (A 116)) 0 z := by
  have g := geo ho hN hc hf
  obtain ⟨h1, h2, h3, h4, h5, h6, h7⟩ := id ho
  have lb := h4 fa hf
  have db := h5 fa hf
  have sb := h6 (nxF f c fa) (by omega)
  have tc := (ha.2 c hc).1
  have e1 : A 113 1 = f 0 := sd_0 sd
  have ss : A 113 (50 + nxF f c fa) = f (11 + nxF f c fa) := sd_s sd (by omega)
  have sl : A 113 (46 + fa) = f (3 + fa) := sd_l sd hf
  have sy : A 113 (86 + fa) = f (7 + fa) := sd_d sd hf
  have nx := m_next (A := A) (F := F) (E := E) (c := (c : Int)) (fa := (fa : Int)) (by omega) (by omega) (by omega) (by rw [e1]; omega) (by omega) (by omega)
  have pl := m_place (A := A) (F := F) (E := E) (c := (c : Int)) (fa := (fa : Int)) (by omega) (by omega) (by omega) (by omega) (by omega) (by omega)
  have ca := m_cellAt (A := A) (F := F) (E := E) (ed := f (3 + fa)) (p := wpl (f 0) c fa) (by omega) (by omega) g.2.2.2.2.2.2.1 (by rw [e1]; exact g.2.2.2.2.2.2.2) lb.1 lb.2
  rw [e1] at nx pl ca
  have ne := m_nears (A := A) (F := F) (E := E) (j := nxF f c fa) (d := A 116 c + (stF f c fa : Int)) (by omega)
  rw [ss] at ne
  have run : ∀ r, (r = 0 ∨ r = 1) → ∀ H, cl mX11_nears [vr 103, vi (nxF f c fa : Int), vi (A 116 c + (stF f c fa : Int))] (HP A F E) = some (vi r, H) → cl mX11_goesFrom [vr 103, vi (c : Int), vi (fa : Int)] (HP A F E) = some (vi r, H) := by
    intro r hr H e
    have x46 : (46 + (fa : Int)).toNat = 46 + fa := by omega
    have x86 : (86 + (fa : Int)).toNat = 86 + fa := by omega
    by_cases z : wnx (f 0) c fa = -1
    · have e3 : (nxF f c fa : Int) = wca (f 0) (f (3 + fa)) (wpl (f 0) c fa) := by unfold nxF; rw [if_pos z]; omega
      have e4 : (stF f c fa : Int) = f (7 + fa) + 2 := by unfold stF; rw [if_pos z]; omega
      rw [e3, e4, ← Int.add_assoc] at e
      rcases hr with rfl | rfl
      · simp (disch := omega) only [eX11_goesFrom, sX11_goesFrom_0, sX11_goesFrom_1, sX11_goesFrom_2, sX11_goesFrom_3, sX11_goesFrom_6, sX11_goesFrom_7, sX11_goesFrom_8, sX11_goesFrom_11, sX11_goesFrom_12, sX11_goesFrom_13, sX11_goesFrom_14, sX11_goesFrom_17, sX11_goesFrom_18, sX11_goesFrom_19, sX11_goesFrom_20, sX11_goesFrom_21, sX11_goesFrom_24, sX11_goesFrom_25, sX11_goesFrom_26, sX11_goesFrom_27, sX11_goesFrom_28, sX11_goesFrom_31, sX11_goesFrom_33, sX11_goesFrom_34, sX11_goesFrom_35, sX11_goesFrom_36, sX11_goesFrom_37, sX11_goesFrom_38, sX11_goesFrom_39, sX11_goesFrom_42, sX11_goesFrom_45, sX11_goesFrom_46, sX11_goesFrom_49, sX11_goesFrom_50, sX11_goesFrom_51, sX11_goesFrom_52, sX11_goesFrom_55, sX11_goesFrom_57, sX11_goesFrom_58, sX11_goesFrom_59, sX11_goesFrom_60, sX11_goesFrom_61, sX11_goesFrom_62, sX11_goesFrom_63, sX11_goesFrom_66, ↓hk103, ↓hf103_20, ↓hf103_26, ↓hg113, ↓hg116, Int.toNat_natCast, x46, x86, sl, sy, i32_of, ↓bndi_at nx, ↓bndi_at pl, ↓bndi_at ca, ↓bndi_at e, z, ↓if_pos, ↓if_neg, ↓reduceIte, true_or, or_true]
      · simp (disch := omega) only [eX11_goesFrom, sX11_goesFrom_0, sX11_goesFrom_1, sX11_goesFrom_2, sX11_goesFrom_3, sX11_goesFrom_6, sX11_goesFrom_7, sX11_goesFrom_8, sX11_goesFrom_11, sX11_goesFrom_12, sX11_goesFrom_13, sX11_goesFrom_14, sX11_goesFrom_17, sX11_goesFrom_18, sX11_goesFrom_19, sX11_goesFrom_20, sX11_goesFrom_21, sX11_goesFrom_24, sX11_goesFrom_25, sX11_goesFrom_26, sX11_goesFrom_27, sX11_goesFrom_28, sX11_goesFrom_31, sX11_goesFrom_33, sX11_goesFrom_34, sX11_goesFrom_35, sX11_goesFrom_36, sX11_goesFrom_37, sX11_goesFrom_38, sX11_goesFrom_39, sX11_goesFrom_42, sX11_goesFrom_45, sX11_goesFrom_46, sX11_goesFrom_49, sX11_goesFrom_50, sX11_goesFrom_51, sX11_goesFrom_52, sX11_goesFrom_55, sX11_goesFrom_57, sX11_goesFrom_58, sX11_goesFrom_59, sX11_goesFrom_60, sX11_goesFrom_61, sX11_goesFrom_62, sX11_goesFrom_63, sX11_goesFrom_66, ↓hk103, ↓hf103_20, ↓hf103_26, ↓hg113, ↓hg116, Int.toNat_natCast, x46, x86, sl, sy, i32_of, ↓bndi_at nx, ↓bndi_at pl, ↓bndi_at ca, ↓bndi_at e, z, ↓if_pos, ↓if_neg, ↓reduceIte, true_or, or_true]
    · have e3 : (nxF f c fa : Int) = wnx (f 0) c fa := by unfold nxF; rw [if_neg z]; omega
      have e4 : (stF f c fa : Int) = 1 := by unfold stF; rw [if_neg z]; rfl
      rw [e3, e4] at e
      rcases hr with rfl | rfl
      · simp (disch := omega) only [eX11_goesFrom, sX11_goesFrom_0, sX11_goesFrom_1, sX11_goesFrom_2, sX11_goesFrom_3, sX11_goesFrom_6, sX11_goesFrom_7, sX11_goesFrom_8, sX11_goesFrom_11, sX11_goesFrom_12, sX11_goesFrom_13, sX11_goesFrom_14, sX11_goesFrom_17, sX11_goesFrom_18, sX11_goesFrom_19, sX11_goesFrom_20, sX11_goesFrom_21, sX11_goesFrom_24, sX11_goesFrom_25, sX11_goesFrom_26, sX11_goesFrom_27, sX11_goesFrom_28, sX11_goesFrom_31, sX11_goesFrom_33, sX11_goesFrom_34, sX11_goesFrom_35, sX11_goesFrom_36, sX11_goesFrom_37, sX11_goesFrom_38, sX11_goesFrom_39, sX11_goesFrom_42, sX11_goesFrom_45, sX11_goesFrom_46, sX11_goesFrom_49, sX11_goesFrom_50, sX11_goesFrom_51, sX11_goesFrom_52, sX11_goesFrom_55, sX11_goesFrom_57, sX11_goesFrom_58, sX11_goesFrom_59, sX11_goesFrom_60, sX11_goesFrom_61, sX11_goesFrom_62, sX11_goesFrom_63, sX11_goesFrom_66, ↓hk103, ↓hf103_26, ↓hg116, Int.toNat_natCast, i32_of, ↓bndi_at nx, ↓bndi_at e, ↓if_pos, ↓if_neg, ↓reduceIte, true_or, or_true]
      · simp (disch := omega) only [eX11_goesFrom, sX11_goesFrom_0, sX11_goesFrom_1, sX11_goesFrom_2, sX11_goesFrom_3, sX11_goesFrom_6, sX11_goesFrom_7, sX11_goesFrom_8, sX11_goesFrom_11, sX11_goesFrom_12, sX11_goesFrom_13, sX11_goesFrom_14, sX11_goesFrom_17, sX11_goesFrom_18, sX11_goesFrom_19, sX11_goesFrom_20, sX11_goesFrom_21, sX11_goesFrom_24, sX11_goesFrom_25, sX11_goesFrom_26, sX11_goesFrom_27, sX11_goesFrom_28, sX11_goesFrom_31, sX11_goesFrom_33, sX11_goesFrom_34, sX11_goesFrom_35, sX11_goesFrom_36, sX11_goesFrom_37, sX11_goesFrom_38, sX11_goesFrom_39, sX11_goesFrom_42, sX11_goesFrom_45, sX11_goesFrom_46, sX11_goesFrom_49, sX11_goesFrom_50, sX11_goesFrom_51, sX11_goesFrom_52, sX11_goesFrom_55, sX11_goesFrom_57, sX11_goesFrom_58, sX11_goesFrom_59, sX11_goesFrom_60, sX11_goesFrom_61, sX11_goesFrom_62, sX11_goesFrom_63, sX11_goesFrom_66, ↓hk103, ↓hf103_26, ↓hg116, Int.toNat_natCast, i32_of, ↓bndi_at nx, ↓bndi_at e, ↓if_pos, ↓if_neg, ↓reduceIte, true_or, or_true]
  have rp := rlx_p (nx := nxF f) (st := stF f) (ok := okF f) (N := N) (s := s) (K := 100) (T := A 116) g.2.1 hc hf g.1
  by_cases z : f (11 + nxF f c fa) = 0 ∧ A 116 c + (stF f c fa : Int) < A 116 (nxF f c fa)
  · rw [if_pos (show ¬ f (11 + nxF f c fa) = 1 ∧ A 116 c + (stF f c fa : Int) < A 116 (nxF f c fa) from ⟨by omega, z.2⟩)] at ne
    have e : rlx (nxF f) (stF f) (okF f) c fa (A 116) = fup (A 116) (nxF f c fa) (A 116 c + (stF f c fa : Int)) := by unfold rlx; rw [if_pos ⟨decide_eq_true z.1, z.2⟩]
    refine ⟨1, by rw [e]; exact run 1 (Or.inr rfl) _ ne, Or.inr ⟨rfl, Or.inr (sumN_lt rp.1 (v := nxF f c fa) ?_ N g.1)⟩⟩
    rw [e, fup_s]
    exact z.2
  · rw [if_neg (show ¬ (¬ f (11 + nxF f c fa) = 1 ∧ A 116 c + (stF f c fa : Int) < A 116 (nxF f c fa)) from fun q => z ⟨by omega, q.2⟩)] at ne
    have e : rlx (nxF f) (stF f) (okF f) c fa (A 116) = A 116 := by unfold rlx; rw [if_neg (fun q => z ⟨of_decide_eq_true q.1, q.2⟩)]
    refine ⟨0, by rw [e, aup_id]; exact run 0 (Or.inl rfl) _ ne, Or.inl ⟨rfl, rfl, e⟩⟩
theorem m_fa_l {g w : Int} (ho : wok f G) (hN : (N : Int) = f 0 * f 0) (hc : c < N) : ∀ (n fa : Nat) (A F : Nat → Nat → Int) (sh : Int), fa + n = 4 → sdr (A 113) f → (sh = 0 ∨ sh = 1) → ach (nxF f) (stF f) (okF f) N s 100 (A 116) → ∃ T' sh' fa', rn mX11_shortest 82 [vr 103, vi g, vi w, vi sh, vi (c : Int), vi (fa : Int)] [] (HP A F E) = rn mX11_shortest 119 [vr 103, vi g, vi w, vi sh', vi (c : Int), vi fa'] [] (HP (aup A 116 T') F E) ∧ rpw (nxF f) (stF f) (okF f) N s 100 (A 116) T' (fun a b => a = c ∧ fa ≤ b ∧ b < 4) ∧ flg N (A 116) T' sh sh' ∧ (sh' = 0 ∨ sh' = 1) := by
  have N6 : N ≤ 36 := by have := sq_b (s := f 0) (by have := ho.2.2.1; omega) ho.2.2.1.2; omega
  intro n
  induction n with
  | zero =>
    intro fa A F sh hk sd hsh ha
    have : fa = 4 := by omega
    subst this
    refine ⟨A 116, sh, 4, ?_, rpw_r (fun a b q => by omega), ?_, hsh⟩
    · rw [sX11_shortest_82, aup_id]
      simp (disch := omega) only [eX11_shortest, sX11_shortest_0, sX11_shortest_1, sX11_shortest_2, sX11_shortest_5, sX11_shortest_8, sX11_shortest_9, sX11_shortest_10, sX11_shortest_13, sX11_shortest_16, sX11_shortest_17, sX11_shortest_18, sX11_shortest_21, sX11_shortest_24, sX11_shortest_25, sX11_shortest_26, sX11_shortest_27, sX11_shortest_29, sX11_shortest_31, sX11_shortest_34, sX11_shortest_35, sX11_shortest_38, sX11_shortest_39, sX11_shortest_41, sX11_shortest_42, sX11_shortest_45, sX11_shortest_48, sX11_shortest_49, sX11_shortest_52, sX11_shortest_53, sX11_shortest_54, sX11_shortest_57, sX11_shortest_58, sX11_shortest_59, sX11_shortest_60, sX11_shortest_62, sX11_shortest_65, sX11_shortest_66, sX11_shortest_67, sX11_shortest_68, sX11_shortest_72, sX11_shortest_73, sX11_shortest_76, sX11_shortest_79, sX11_shortest_80, sX11_shortest_84, sX11_shortest_85, sX11_shortest_88, sX11_shortest_89, sX11_shortest_92, sX11_shortest_94, sX11_shortest_95, sX11_shortest_97, sX11_shortest_100, sX11_shortest_101, sX11_shortest_103, sX11_shortest_105, sX11_shortest_108, sX11_shortest_111, sX11_shortest_112, sX11_shortest_113, sX11_shortest_116, sX11_shortest_122, sX11_shortest_125, sX11_shortest_128, sX11_shortest_129, sX11_shortest_132, sX11_shortest_133, sX11_shortest_134, sX11_shortest_136, sX11_shortest_139, sX11_shortest_141, sX11_shortest_144, sX11_shortest_145, sX11_shortest_148, sX11_shortest_149, sX11_shortest_150, ↓if_pos]
      rfl
    · rcases hsh with q | q
      · exact Or.inl ⟨q, q, rfl⟩
      · exact Or.inr ⟨q, Or.inl q⟩
  | succ n ih =>
    intro fa A F sh hk sd hsh ha
    by_cases z : 99 < A 116 c
    · refine ⟨A 116, sh, (fa : Int), ?_, ⟨fun j => Int.le_refl _, fun a b q hk2 => ?_, id⟩, ?_, hsh⟩
      · rw [sX11_shortest_82, aup_id]
        simp (disch := omega) only [eX11_shortest, sX11_shortest_0, sX11_shortest_1, sX11_shortest_2, sX11_shortest_5, sX11_shortest_8, sX11_shortest_9, sX11_shortest_10, sX11_shortest_13, sX11_shortest_16, sX11_shortest_17, sX11_shortest_18, sX11_shortest_21, sX11_shortest_24, sX11_shortest_25, sX11_shortest_26, sX11_shortest_27, sX11_shortest_29, sX11_shortest_31, sX11_shortest_34, sX11_shortest_35, sX11_shortest_38, sX11_shortest_39, sX11_shortest_41, sX11_shortest_42, sX11_shortest_45, sX11_shortest_48, sX11_shortest_49, sX11_shortest_52, sX11_shortest_53, sX11_shortest_54, sX11_shortest_57, sX11_shortest_58, sX11_shortest_59, sX11_shortest_60, sX11_shortest_62, sX11_shortest_65, sX11_shortest_66, sX11_shortest_67, sX11_shortest_68, sX11_shortest_72, sX11_shortest_73, sX11_shortest_76, sX11_shortest_79, sX11_shortest_80, sX11_shortest_84, sX11_shortest_85, sX11_shortest_88, sX11_shortest_89, sX11_shortest_92, sX11_shortest_94, sX11_shortest_95, sX11_shortest_97, sX11_shortest_100, sX11_shortest_101, sX11_shortest_103, sX11_shortest_105, sX11_shortest_108, sX11_shortest_111, sX11_shortest_112, sX11_shortest_113, sX11_shortest_116, sX11_shortest_122, sX11_shortest_125, sX11_shortest_128, sX11_shortest_129, sX11_shortest_132, sX11_shortest_133, sX11_shortest_134, sX11_shortest_136, sX11_shortest_139, sX11_shortest_141, sX11_shortest_144, sX11_shortest_145, sX11_shortest_148, sX11_shortest_149, sX11_shortest_150, ↓hf103_26, ↓hg116, Int.toNat_natCast, ↓if_pos, ↓if_neg]
      · rw [q.1] at hk2; omega
      · rcases hsh with q | q
        · exact Or.inl ⟨q, q, rfl⟩
        · exact Or.inr ⟨q, Or.inl q⟩
    · have g' := geo ho hN hc (show fa < 4 by omega)
      have rp := rlx_p (nx := nxF f) (st := stF f) (ok := okF f) (N := N) (s := s) (K := 100) (T := A 116) g'.2.1 hc (show fa < 4 by omega) g'.1
      obtain ⟨r, t1, t2⟩ := m_goes (A := A) (F := F) (E := E) (fa := fa) ho sd hN hc (by omega) ha
      have m2 : ∃ sh1, (sh1 = 0 ∨ sh1 = 1) ∧ flg N (A 116) (rlx (nxF f) (stF f) (okF f) c fa (A 116)) sh sh1 ∧ rn mX11_shortest 82 [vr 103, vi g, vi w, vi sh, vi (c : Int), vi (fa : Int)] [] (HP A F E) = rn mX11_shortest 82 [vr 103, vi g, vi w, vi sh1, vi (c : Int), vi ((fa + 1 : Nat) : Int)] [] (HP (aup A 116 (rlx (nxF f) (stF f) (okF f) c fa (A 116))) F E) := by
        rcases t2 with ⟨a1, a2, a3⟩ | ⟨a1, a2⟩
        · refine ⟨sh, hsh, ?_, ?_⟩
          · rcases hsh with q | q
            · exact Or.inl ⟨q, q, a3⟩
            · exact Or.inr ⟨q, Or.inl q⟩
          · rw [a1] at t1
            conv => lhs; rw [sX11_shortest_82]
            simp (disch := omega) only [eX11_shortest, sX11_shortest_0, sX11_shortest_1, sX11_shortest_2, sX11_shortest_5, sX11_shortest_8, sX11_shortest_9, sX11_shortest_10, sX11_shortest_13, sX11_shortest_16, sX11_shortest_17, sX11_shortest_18, sX11_shortest_21, sX11_shortest_24, sX11_shortest_25, sX11_shortest_26, sX11_shortest_27, sX11_shortest_29, sX11_shortest_31, sX11_shortest_34, sX11_shortest_35, sX11_shortest_38, sX11_shortest_39, sX11_shortest_41, sX11_shortest_42, sX11_shortest_45, sX11_shortest_48, sX11_shortest_49, sX11_shortest_52, sX11_shortest_53, sX11_shortest_54, sX11_shortest_57, sX11_shortest_58, sX11_shortest_59, sX11_shortest_60, sX11_shortest_62, sX11_shortest_65, sX11_shortest_66, sX11_shortest_67, sX11_shortest_68, sX11_shortest_72, sX11_shortest_73, sX11_shortest_76, sX11_shortest_79, sX11_shortest_80, sX11_shortest_84, sX11_shortest_85, sX11_shortest_88, sX11_shortest_89, sX11_shortest_92, sX11_shortest_94, sX11_shortest_95, sX11_shortest_97, sX11_shortest_100, sX11_shortest_101, sX11_shortest_103, sX11_shortest_105, sX11_shortest_108, sX11_shortest_111, sX11_shortest_112, sX11_shortest_113, sX11_shortest_116, sX11_shortest_122, sX11_shortest_125, sX11_shortest_128, sX11_shortest_129, sX11_shortest_132, sX11_shortest_133, sX11_shortest_134, sX11_shortest_136, sX11_shortest_139, sX11_shortest_141, sX11_shortest_144, sX11_shortest_145, sX11_shortest_148, sX11_shortest_149, sX11_shortest_150, ↓hk103, ↓hf103_26, ↓hg116, Int.toNat_natCast, ↓bndi_at t1, ↓if_pos, ↓if_neg, i32_s]
        · have a3 : sumN (rlx (nxF f) (stF f) (okF f) c fa (A 116)) N < sumN (A 116) N := by
            rcases a2 with a2 | a2
            · omega
            · exact a2
          refine ⟨1, Or.inr rfl, Or.inr ⟨rfl, Or.inr a3⟩, ?_⟩
          rw [a1] at t1
          conv => lhs; rw [sX11_shortest_82]
          simp (disch := omega) only [eX11_shortest, sX11_shortest_0, sX11_shortest_1, sX11_shortest_2, sX11_shortest_5, sX11_shortest_8, sX11_shortest_9, sX11_shortest_10, sX11_shortest_13, sX11_shortest_16, sX11_shortest_17, sX11_shortest_18, sX11_shortest_21, sX11_shortest_24, sX11_shortest_25, sX11_shortest_26, sX11_shortest_27, sX11_shortest_29, sX11_shortest_31, sX11_shortest_34, sX11_shortest_35, sX11_shortest_38, sX11_shortest_39, sX11_shortest_41, sX11_shortest_42, sX11_shortest_45, sX11_shortest_48, sX11_shortest_49, sX11_shortest_52, sX11_shortest_53, sX11_shortest_54, sX11_shortest_57, sX11_shortest_58, sX11_shortest_59, sX11_shortest_60, sX11_shortest_62, sX11_shortest_65, sX11_shortest_66, sX11_shortest_67, sX11_shortest_68, sX11_shortest_72, sX11_shortest_73, sX11_shortest_76, sX11_shortest_79, sX11_shortest_80, sX11_shortest_84, sX11_shortest_85, sX11_shortest_88, sX11_shortest_89, sX11_shortest_92, sX11_shortest_94, sX11_shortest_95, sX11_shortest_97, sX11_shortest_100, sX11_shortest_101, sX11_shortest_103, sX11_shortest_105, sX11_shortest_108, sX11_shortest_111, sX11_shortest_112, sX11_shortest_113, sX11_shortest_116, sX11_shortest_122, sX11_shortest_125, sX11_shortest_128, sX11_shortest_129, sX11_shortest_132, sX11_shortest_133, sX11_shortest_134, sX11_shortest_136, sX11_shortest_139, sX11_shortest_141, sX11_shortest_144, sX11_shortest_145, sX11_shortest_148, sX11_shortest_149, sX11_shortest_150, ↓hk103, ↓hf103_26, ↓hg116, Int.toNat_natCast, ↓bndi_at t1, ↓if_pos, ↓if_neg, i32_s]
      obtain ⟨sh1, b1, b2, b3⟩ := m2
      obtain ⟨T', sh', fa', u1, u2, u3, u4⟩ := ih (fa + 1) (aup A 116 (rlx (nxF f) (stF f) (okF f) c fa (A 116))) F sh1 (by omega) (by rw [aup_n (by omega)]; exact sd) b1 (by rw [aup_s]; exact rp.2.2 ha)
      rw [aup_aup] at u1
      rw [aup_s] at u2 u3
      exact ⟨T', sh', fa', by rw [b3, u1], rpw_t rp u2 (fun a b q => by by_cases y : b = fa; exact Or.inl ⟨q.1, y⟩; exact Or.inr ⟨q.1, by omega, q.2.2⟩), flg_t rp.1 u2.1 b2 u3, u4⟩
theorem m_ps_l {g w : Int} (ho : wok f G) (hN : (N : Int) = f 0 * f 0) : ∀ (n c : Nat) (A F : Nat → Nat → Int) (sh : Int) (x5 : zV), c + n = N → sdr (A 113) f → (sh = 0 ∨ sh = 1) → ach (nxF f) (stF f) (okF f) N s 100 (A 116) → ∃ T' sh' x5', rn mX11_shortest 70 [vr 103, vi g, vi w, vi sh, vi (c : Int), x5] [] (HP A F E) = rn mX11_shortest 125 [vr 103, vi g, vi w, vi sh', vi (N : Int), x5'] [] (HP (aup A 116 T') F E) ∧ rpw (nxF f) (stF f) (okF f) N s 100 (A 116) T' (fun a b => c ≤ a ∧ a < N ∧ b < 4) ∧ flg N (A 116) T' sh sh' ∧ (sh' = 0 ∨ sh' = 1) := by
  have N6 : N ≤ 36 := by have := sq_b (s := f 0) (by have := ho.2.2.1; omega) ho.2.2.1.2; omega
  have s3 := ho.2.2.1
  intro n
  induction n with
  | zero =>
    intro c A F sh x5 hk sd hsh ha
    have : c = N := by omega
    subst this
    have cs := m_cells (A := A) (F := F) (E := E) (by rw [sd_0 sd]; omega) (by rw [sd_0 sd]; omega)
    rw [sd_0 sd, ← hN] at cs
    refine ⟨A 116, sh, x5, ?_, rpw_r (fun a b q => by omega), ?_, hsh⟩
    · rw [sX11_shortest_70, aup_id]
      simp (disch := omega) only [eX11_shortest, sX11_shortest_0, sX11_shortest_1, sX11_shortest_2, sX11_shortest_5, sX11_shortest_8, sX11_shortest_9, sX11_shortest_10, sX11_shortest_13, sX11_shortest_16, sX11_shortest_17, sX11_shortest_18, sX11_shortest_21, sX11_shortest_24, sX11_shortest_25, sX11_shortest_26, sX11_shortest_27, sX11_shortest_29, sX11_shortest_31, sX11_shortest_34, sX11_shortest_35, sX11_shortest_38, sX11_shortest_39, sX11_shortest_41, sX11_shortest_42, sX11_shortest_45, sX11_shortest_48, sX11_shortest_49, sX11_shortest_52, sX11_shortest_53, sX11_shortest_54, sX11_shortest_57, sX11_shortest_58, sX11_shortest_59, sX11_shortest_60, sX11_shortest_62, sX11_shortest_65, sX11_shortest_66, sX11_shortest_67, sX11_shortest_68, sX11_shortest_72, sX11_shortest_73, sX11_shortest_76, sX11_shortest_79, sX11_shortest_80, sX11_shortest_84, sX11_shortest_85, sX11_shortest_88, sX11_shortest_89, sX11_shortest_92, sX11_shortest_94, sX11_shortest_95, sX11_shortest_97, sX11_shortest_100, sX11_shortest_101, sX11_shortest_103, sX11_shortest_105, sX11_shortest_108, sX11_shortest_111, sX11_shortest_112, sX11_shortest_113, sX11_shortest_116, sX11_shortest_119, sX11_shortest_122, sX11_shortest_128, sX11_shortest_129, sX11_shortest_132, sX11_shortest_133, sX11_shortest_134, sX11_shortest_136, sX11_shortest_139, sX11_shortest_141, sX11_shortest_144, sX11_shortest_145, sX11_shortest_148, sX11_shortest_149, sX11_shortest_150, ↓hk103, ↓bndi_at cs, ↓if_pos]
    · rcases hsh with q | q
      · exact Or.inl ⟨q, q, rfl⟩
      · exact Or.inr ⟨q, Or.inl q⟩
  | succ n ih =>
    intro c A F sh x5 hk sd hsh ha
    have cs := m_cells (A := A) (F := F) (E := E) (by rw [sd_0 sd]; omega) (by rw [sd_0 sd]; omega)
    rw [sd_0 sd, ← hN] at cs
    obtain ⟨T1, sh1, fa', t1, t2, t3, t4⟩ := m_fa_l (E := E) (g := g) (w := w) (c := c) (s := s) ho hN (by omega) 4 0 A F sh (by omega) sd hsh ha
    have t1' : rn mX11_shortest 82 [vr 103, vi g, vi w, vi sh, vi (c : Int), vi 0] [] (HP A F E) = _ := t1
    obtain ⟨T', sh', x5', u1, u2, u3, u4⟩ := ih (c + 1) (aup A 116 T1) F sh1 (vi fa') (by omega) (by rw [aup_n (by omega)]; exact sd) t4 (by rw [aup_s]; exact t2.2.2 ha)
    rw [aup_aup] at u1
    rw [aup_s] at u2 u3
    refine ⟨T', sh', x5', ?_, rpw_t t2 u2 (fun a b q => by by_cases y : a = c; exact Or.inl ⟨y, by omega, q.2.2⟩; exact Or.inr ⟨by omega, q.2⟩), flg_t t2.1 u2.1 t3 u3, u4⟩
    rw [← u1, sX11_shortest_70]
    simp (disch := omega) only [eX11_shortest, sX11_shortest_0, sX11_shortest_1, sX11_shortest_2, sX11_shortest_5, sX11_shortest_8, sX11_shortest_9, sX11_shortest_10, sX11_shortest_13, sX11_shortest_16, sX11_shortest_17, sX11_shortest_18, sX11_shortest_21, sX11_shortest_24, sX11_shortest_25, sX11_shortest_26, sX11_shortest_27, sX11_shortest_29, sX11_shortest_31, sX11_shortest_34, sX11_shortest_35, sX11_shortest_38, sX11_shortest_39, sX11_shortest_41, sX11_shortest_42, sX11_shortest_45, sX11_shortest_48, sX11_shortest_49, sX11_shortest_52, sX11_shortest_53, sX11_shortest_54, sX11_shortest_57, sX11_shortest_58, sX11_shortest_59, sX11_shortest_60, sX11_shortest_62, sX11_shortest_65, sX11_shortest_66, sX11_shortest_67, sX11_shortest_68, sX11_shortest_72, sX11_shortest_73, sX11_shortest_76, sX11_shortest_79, sX11_shortest_80, sX11_shortest_84, sX11_shortest_85, sX11_shortest_88, sX11_shortest_89, sX11_shortest_92, sX11_shortest_94, sX11_shortest_95, sX11_shortest_97, sX11_shortest_100, sX11_shortest_101, sX11_shortest_103, sX11_shortest_105, sX11_shortest_108, sX11_shortest_111, sX11_shortest_112, sX11_shortest_113, sX11_shortest_116, sX11_shortest_122, sX11_shortest_128, sX11_shortest_129, sX11_shortest_132, sX11_shortest_133, sX11_shortest_134, sX11_shortest_136, sX11_shortest_139, sX11_shortest_141, sX11_shortest_144, sX11_shortest_145, sX11_shortest_148, sX11_shortest_149, sX11_shortest_150, ↓hk103, ↓bndi_at cs, ↓if_neg]
    rw [t1']
    simp (disch := omega) only [eX11_shortest, sX11_shortest_0, sX11_shortest_1, sX11_shortest_2, sX11_shortest_5, sX11_shortest_8, sX11_shortest_9, sX11_shortest_10, sX11_shortest_13, sX11_shortest_16, sX11_shortest_17, sX11_shortest_18, sX11_shortest_21, sX11_shortest_24, sX11_shortest_25, sX11_shortest_26, sX11_shortest_27, sX11_shortest_29, sX11_shortest_31, sX11_shortest_34, sX11_shortest_35, sX11_shortest_38, sX11_shortest_39, sX11_shortest_41, sX11_shortest_42, sX11_shortest_45, sX11_shortest_48, sX11_shortest_49, sX11_shortest_52, sX11_shortest_53, sX11_shortest_54, sX11_shortest_57, sX11_shortest_58, sX11_shortest_59, sX11_shortest_60, sX11_shortest_62, sX11_shortest_65, sX11_shortest_66, sX11_shortest_67, sX11_shortest_68, sX11_shortest_72, sX11_shortest_73, sX11_shortest_76, sX11_shortest_79, sX11_shortest_80, sX11_shortest_84, sX11_shortest_85, sX11_shortest_88, sX11_shortest_89, sX11_shortest_92, sX11_shortest_94, sX11_shortest_95, sX11_shortest_97, sX11_shortest_100, sX11_shortest_101, sX11_shortest_103, sX11_shortest_105, sX11_shortest_108, sX11_shortest_111, sX11_shortest_112, sX11_shortest_113, sX11_shortest_116, sX11_shortest_119, sX11_shortest_122, sX11_shortest_128, sX11_shortest_129, sX11_shortest_132, sX11_shortest_133, sX11_shortest_134, sX11_shortest_136, sX11_shortest_139, sX11_shortest_141, sX11_shortest_144, sX11_shortest_145, sX11_shortest_148, sX11_shortest_149, sX11_shortest_150, i32_s]
theorem m_wy_l {g w : Int} (ho : wok f G) (hN : (N : Int) = f 0 * f 0) : ∀ (M : Nat) (A F : Nat → Nat → Int) (sh : Int) (x4 x5 : zV), sumN (A 116) N < (M : Int) → sdr (A 113) f → (sh = 0 ∨ sh = 1) → ach (nxF f) (stF f) (okF f) N s 100 (A 116) → (sh = 0 → ∀ v, swy (nxF f) (stF f) (okF f) N s 100 (A 116) v) → ∃ T' x4' x5', rn mX11_shortest 61 [vr 103, vi g, vi w, vi sh, x4, x5] [] (HP A F E) = rn mX11_shortest 128 [vr 103, vi g, vi w, vi 0, x4', x5'] [] (HP (aup A 116 T') F E) ∧ ach (nxF f) (stF f) (okF f) N s 100 T' ∧ ∀ v, swy (nxF f) (stF f) (okF f) N s 100 T' v := by
  intro M
  induction M with
  | zero =>
    intro A F sh x4 x5 hM sd hsh ha hf
    have := (sumN_bd (g := A 116) (b := 100) N (fun j hj => (ha.2 j hj).1)).1
    omega
  | succ M ih =>
    intro A F sh x4 x5 hM sd hsh ha hf
    rcases hsh with z | z
    · refine ⟨A 116, x4, x5, ?_, ha, hf z⟩
      rw [z, sX11_shortest_61, aup_id]
      simp (disch := omega) only [eX11_shortest, sX11_shortest_0, sX11_shortest_1, sX11_shortest_2, sX11_shortest_5, sX11_shortest_8, sX11_shortest_9, sX11_shortest_10, sX11_shortest_13, sX11_shortest_16, sX11_shortest_17, sX11_shortest_18, sX11_shortest_21, sX11_shortest_24, sX11_shortest_25, sX11_shortest_26, sX11_shortest_27, sX11_shortest_29, sX11_shortest_31, sX11_shortest_34, sX11_shortest_35, sX11_shortest_38, sX11_shortest_39, sX11_shortest_41, sX11_shortest_42, sX11_shortest_45, sX11_shortest_48, sX11_shortest_49, sX11_shortest_52, sX11_shortest_53, sX11_shortest_54, sX11_shortest_57, sX11_shortest_58, sX11_shortest_59, sX11_shortest_60, sX11_shortest_62, sX11_shortest_65, sX11_shortest_66, sX11_shortest_67, sX11_shortest_68, sX11_shortest_72, sX11_shortest_73, sX11_shortest_76, sX11_shortest_79, sX11_shortest_80, sX11_shortest_84, sX11_shortest_85, sX11_shortest_88, sX11_shortest_89, sX11_shortest_92, sX11_shortest_94, sX11_shortest_95, sX11_shortest_97, sX11_shortest_100, sX11_shortest_101, sX11_shortest_103, sX11_shortest_105, sX11_shortest_108, sX11_shortest_111, sX11_shortest_112, sX11_shortest_113, sX11_shortest_116, sX11_shortest_119, sX11_shortest_122, sX11_shortest_125, sX11_shortest_129, sX11_shortest_132, sX11_shortest_133, sX11_shortest_134, sX11_shortest_136, sX11_shortest_139, sX11_shortest_141, sX11_shortest_144, sX11_shortest_145, sX11_shortest_148, sX11_shortest_149, sX11_shortest_150, ↓if_pos]
    · obtain ⟨T1, sh1, x5', t1, t2, t3, t4⟩ := m_ps_l (E := E) (g := g) (w := w) (s := s) ho hN N 0 A F 0 x5 (by omega) sd (Or.inl rfl) ha
      have t1' : rn mX11_shortest 70 [vr 103, vi g, vi w, vi 0, vi 0, x5] [] (HP A F E) = _ := t1
      have h0 : A 116 s ≤ 0 := Int.le_of_eq ha.1
      have st1 : rn mX11_shortest 61 [vr 103, vi g, vi w, vi sh, x4, x5] [] (HP A F E) = rn mX11_shortest 61 [vr 103, vi g, vi w, vi sh1, vi (N : Int), x5'] [] (HP (aup A 116 T1) F E) := by
        conv => lhs; rw [sX11_shortest_61]
        simp (disch := omega) only [eX11_shortest, sX11_shortest_0, sX11_shortest_1, sX11_shortest_2, sX11_shortest_5, sX11_shortest_8, sX11_shortest_9, sX11_shortest_10, sX11_shortest_13, sX11_shortest_16, sX11_shortest_17, sX11_shortest_18, sX11_shortest_21, sX11_shortest_24, sX11_shortest_25, sX11_shortest_26, sX11_shortest_27, sX11_shortest_29, sX11_shortest_31, sX11_shortest_34, sX11_shortest_35, sX11_shortest_38, sX11_shortest_39, sX11_shortest_41, sX11_shortest_42, sX11_shortest_45, sX11_shortest_48, sX11_shortest_49, sX11_shortest_52, sX11_shortest_53, sX11_shortest_54, sX11_shortest_57, sX11_shortest_58, sX11_shortest_59, sX11_shortest_60, sX11_shortest_62, sX11_shortest_65, sX11_shortest_66, sX11_shortest_67, sX11_shortest_68, sX11_shortest_72, sX11_shortest_73, sX11_shortest_76, sX11_shortest_79, sX11_shortest_80, sX11_shortest_84, sX11_shortest_85, sX11_shortest_88, sX11_shortest_89, sX11_shortest_92, sX11_shortest_94, sX11_shortest_95, sX11_shortest_97, sX11_shortest_100, sX11_shortest_101, sX11_shortest_103, sX11_shortest_105, sX11_shortest_108, sX11_shortest_111, sX11_shortest_112, sX11_shortest_113, sX11_shortest_116, sX11_shortest_119, sX11_shortest_122, sX11_shortest_128, sX11_shortest_129, sX11_shortest_132, sX11_shortest_133, sX11_shortest_134, sX11_shortest_136, sX11_shortest_139, sX11_shortest_141, sX11_shortest_144, sX11_shortest_145, sX11_shortest_148, sX11_shortest_149, sX11_shortest_150, ↓if_neg]
        rw [t1']
        simp (disch := omega) only [eX11_shortest, sX11_shortest_0, sX11_shortest_1, sX11_shortest_2, sX11_shortest_5, sX11_shortest_8, sX11_shortest_9, sX11_shortest_10, sX11_shortest_13, sX11_shortest_16, sX11_shortest_17, sX11_shortest_18, sX11_shortest_21, sX11_shortest_24, sX11_shortest_25, sX11_shortest_26, sX11_shortest_27, sX11_shortest_29, sX11_shortest_31, sX11_shortest_34, sX11_shortest_35, sX11_shortest_38, sX11_shortest_39, sX11_shortest_41, sX11_shortest_42, sX11_shortest_45, sX11_shortest_48, sX11_shortest_49, sX11_shortest_52, sX11_shortest_53, sX11_shortest_54, sX11_shortest_57, sX11_shortest_58, sX11_shortest_59, sX11_shortest_60, sX11_shortest_62, sX11_shortest_65, sX11_shortest_66, sX11_shortest_67, sX11_shortest_68, sX11_shortest_72, sX11_shortest_73, sX11_shortest_76, sX11_shortest_79, sX11_shortest_80, sX11_shortest_84, sX11_shortest_85, sX11_shortest_88, sX11_shortest_89, sX11_shortest_92, sX11_shortest_94, sX11_shortest_95, sX11_shortest_97, sX11_shortest_100, sX11_shortest_101, sX11_shortest_103, sX11_shortest_105, sX11_shortest_108, sX11_shortest_111, sX11_shortest_112, sX11_shortest_113, sX11_shortest_116, sX11_shortest_119, sX11_shortest_122, sX11_shortest_125, sX11_shortest_128, sX11_shortest_129, sX11_shortest_132, sX11_shortest_133, sX11_shortest_134, sX11_shortest_136, sX11_shortest_139, sX11_shortest_141, sX11_shortest_144, sX11_shortest_145, sX11_shortest_148, sX11_shortest_149, sX11_shortest_150]
      rcases t3 with ⟨a1, a2, a3⟩ | ⟨a1, a2⟩
      · refine ⟨T1, vi (N : Int), x5', ?_, t2.2.2 ha, fun v => ?_⟩
        · rw [st1, a1, sX11_shortest_61]
          simp (disch := omega) only [eX11_shortest, sX11_shortest_0, sX11_shortest_1, sX11_shortest_2, sX11_shortest_5, sX11_shortest_8, sX11_shortest_9, sX11_shortest_10, sX11_shortest_13, sX11_shortest_16, sX11_shortest_17, sX11_shortest_18, sX11_shortest_21, sX11_shortest_24, sX11_shortest_25, sX11_shortest_26, sX11_shortest_27, sX11_shortest_29, sX11_shortest_31, sX11_shortest_34, sX11_shortest_35, sX11_shortest_38, sX11_shortest_39, sX11_shortest_41, sX11_shortest_42, sX11_shortest_45, sX11_shortest_48, sX11_shortest_49, sX11_shortest_52, sX11_shortest_53, sX11_shortest_54, sX11_shortest_57, sX11_shortest_58, sX11_shortest_59, sX11_shortest_60, sX11_shortest_62, sX11_shortest_65, sX11_shortest_66, sX11_shortest_67, sX11_shortest_68, sX11_shortest_72, sX11_shortest_73, sX11_shortest_76, sX11_shortest_79, sX11_shortest_80, sX11_shortest_84, sX11_shortest_85, sX11_shortest_88, sX11_shortest_89, sX11_shortest_92, sX11_shortest_94, sX11_shortest_95, sX11_shortest_97, sX11_shortest_100, sX11_shortest_101, sX11_shortest_103, sX11_shortest_105, sX11_shortest_108, sX11_shortest_111, sX11_shortest_112, sX11_shortest_113, sX11_shortest_116, sX11_shortest_119, sX11_shortest_122, sX11_shortest_125, sX11_shortest_129, sX11_shortest_132, sX11_shortest_133, sX11_shortest_134, sX11_shortest_136, sX11_shortest_139, sX11_shortest_141, sX11_shortest_144, sX11_shortest_145, sX11_shortest_148, sX11_shortest_149, sX11_shortest_150, ↓if_pos]
        · rw [a3] at t2 ⊢
          exact fun n d r hk2 => fix_stl h0 (fun a b q1 q2' q3 q4 => t2.2.1 a b ⟨by omega, q1, q2'⟩ q3 q4) n v d r hk2
      · have a3 : sumN T1 N < sumN (A 116) N := by
          rcases a2 with a2 | a2
          · omega
          · exact a2
        obtain ⟨T', x4', x6', u1, u2, u3⟩ := ih (aup A 116 T1) F sh1 (vi (N : Int)) x5' (by rw [aup_s]; omega) (by rw [aup_n (by omega)]; exact sd) t4 (by rw [aup_s]; exact t2.2.2 ha) (fun q => by omega)
        rw [aup_aup] at u1
        exact ⟨T', x4', x6', by rw [st1, u1], u2, u3⟩
theorem m_wy_0 {g w : Int} {x4 x5 : zV} : ∀ (n k : Nat) (A F : Nat → Nat → Int), k + n = 36 → ∃ W, rn mX11_shortest 28 [vr 103, vi g, vi w, vi (k : Int), x4, x5] [] (HP A F E) = rn mX11_shortest 48 [vr 103, vi g, vi w, vi 36, x4, x5] [] (HP (aup A 116 W) F E) ∧ ∀ j, W j = if k ≤ j ∧ j < 36 then 100 else A 116 j := by
  intro n
  induction n with
  | zero =>
    intro k A F hk
    have : k = 36 := by omega
    subst this
    refine ⟨A 116, ?_, fun j => by rw [if_neg (by omega)]⟩
    rw [sX11_shortest_28, aup_id]
    simp (disch := omega) only [eX11_shortest, sX11_shortest_0, sX11_shortest_1, sX11_shortest_2, sX11_shortest_5, sX11_shortest_8, sX11_shortest_9, sX11_shortest_10, sX11_shortest_13, sX11_shortest_16, sX11_shortest_17, sX11_shortest_18, sX11_shortest_21, sX11_shortest_24, sX11_shortest_25, sX11_shortest_26, sX11_shortest_27, sX11_shortest_29, sX11_shortest_31, sX11_shortest_34, sX11_shortest_35, sX11_shortest_38, sX11_shortest_39, sX11_shortest_41, sX11_shortest_42, sX11_shortest_45, sX11_shortest_49, sX11_shortest_52, sX11_shortest_53, sX11_shortest_54, sX11_shortest_57, sX11_shortest_58, sX11_shortest_59, sX11_shortest_60, sX11_shortest_62, sX11_shortest_65, sX11_shortest_66, sX11_shortest_67, sX11_shortest_68, sX11_shortest_72, sX11_shortest_73, sX11_shortest_76, sX11_shortest_79, sX11_shortest_80, sX11_shortest_84, sX11_shortest_85, sX11_shortest_88, sX11_shortest_89, sX11_shortest_92, sX11_shortest_94, sX11_shortest_95, sX11_shortest_97, sX11_shortest_100, sX11_shortest_101, sX11_shortest_103, sX11_shortest_105, sX11_shortest_108, sX11_shortest_111, sX11_shortest_112, sX11_shortest_113, sX11_shortest_116, sX11_shortest_119, sX11_shortest_122, sX11_shortest_125, sX11_shortest_128, sX11_shortest_129, sX11_shortest_132, sX11_shortest_133, sX11_shortest_134, sX11_shortest_136, sX11_shortest_139, sX11_shortest_141, sX11_shortest_144, sX11_shortest_145, sX11_shortest_148, sX11_shortest_149, sX11_shortest_150, ↓if_pos]
    rfl
  | succ n ih =>
    intro k A F hk
    obtain ⟨W, r1, r2⟩ := ih (k + 1) (aup A 116 (fup (A 116) k 100)) F (by omega)
    rw [aup_aup] at r1
    refine ⟨W, ?_, fun j => ?_⟩
    · rw [← r1, sX11_shortest_28]
      simp (disch := omega) only [eX11_shortest, sX11_shortest_0, sX11_shortest_1, sX11_shortest_2, sX11_shortest_5, sX11_shortest_8, sX11_shortest_9, sX11_shortest_10, sX11_shortest_13, sX11_shortest_16, sX11_shortest_17, sX11_shortest_18, sX11_shortest_21, sX11_shortest_24, sX11_shortest_25, sX11_shortest_26, sX11_shortest_27, sX11_shortest_29, sX11_shortest_31, sX11_shortest_34, sX11_shortest_35, sX11_shortest_38, sX11_shortest_39, sX11_shortest_41, sX11_shortest_42, sX11_shortest_45, sX11_shortest_49, sX11_shortest_52, sX11_shortest_53, sX11_shortest_54, sX11_shortest_57, sX11_shortest_58, sX11_shortest_59, sX11_shortest_60, sX11_shortest_62, sX11_shortest_65, sX11_shortest_66, sX11_shortest_67, sX11_shortest_68, sX11_shortest_72, sX11_shortest_73, sX11_shortest_76, sX11_shortest_79, sX11_shortest_80, sX11_shortest_84, sX11_shortest_85, sX11_shortest_88, sX11_shortest_89, sX11_shortest_92, sX11_shortest_94, sX11_shortest_95, sX11_shortest_97, sX11_shortest_100, sX11_shortest_101, sX11_shortest_103, sX11_shortest_105, sX11_shortest_108, sX11_shortest_111, sX11_shortest_112, sX11_shortest_113, sX11_shortest_116, sX11_shortest_119, sX11_shortest_122, sX11_shortest_125, sX11_shortest_128, sX11_shortest_129, sX11_shortest_132, sX11_shortest_133, sX11_shortest_134, sX11_shortest_136, sX11_shortest_139, sX11_shortest_141, sX11_shortest_144, sX11_shortest_145, sX11_shortest_148, sX11_shortest_149, sX11_shortest_150, ↓hf103_26, ↓hs116, Int.toNat_natCast, ↓if_neg, i32_s]
    · rw [r2, aup_s]
      by_cases q : j = k
      · subst q; rw [if_neg (by omega), if_pos (by omega), fup_s]
      · by_cases q2' : k ≤ j ∧ j < 36
        · rw [if_pos (by omega), if_pos q2']
        · rw [if_neg (by omega), if_neg q2', fup_n q]
theorem k_shortest {g w : Int} (h : inv A F E) : prs mX10_shortest mX11_shortest [vi g, vi w] A F E := by
  have b := iS_b h.2.2.2.1
  have ig := E_isOn (A := A) (F := F) (E := E) (g := g) b.2.1.1 b.2.1.2
  have mg := fun A1 F1 => m_isGoer (A := A1) (F := F1) (E := E) (g := g)
  have ic := E_isCell (A := A) (F := F) (E := E) (c := w) b.1.1 b.1.2
  by_cases z0 : 0 ≤ g ∧ g < A 13 1
  · obtain ⟨G, r⟩ := b.2.2.2.2.2.2.mp (b.2.2.2.2.2.1 (by omega))
    have hG : A 13 1 = (G : Int) := r.1.1
    have hG5 := r.1.2.1
    have sb := r.1.2.2.1
    have sq := sq_b (s := A 13 0) (by omega) sb.2
    have sd := r.2.2.2.1
    have s13 : A 113 1 = A 13 0 := b.2.2.1
    obtain ⟨p, rfl⟩ : ∃ p : Nat, g = (p : Int) := ⟨g.toNat, by omega⟩
    have sg := sd_g sd (g := p) (by omega)
    have gk := r.1.2.2.2.2.2.2 p (by omega)
    unfold gok at gk
    have mo := fun A1 F1 => m_isOn (A := A1) (F := F1) (E := E) (g := p) (by omega)
    rw [show (47 + 7 * (p : Int) + 3).toNat = 50 + 7 * p by omega] at ig
    by_cases z : A 13 (50 + 7 * p) = 0
    · rw [if_pos ⟨z0, z⟩] at ig
      by_cases z1 : 0 ≤ w ∧ w < A 13 0 * A 13 0
      · rw [if_pos z1] at ic
        obtain ⟨N, hN⟩ : ∃ N : Nat, (N : Int) = A 13 0 * A 13 0 := ⟨(A 13 0 * A 13 0).toNat, by omega⟩
        obtain ⟨v, rfl⟩ : ∃ v : Nat, w = (v : Int) := ⟨w.toNat, by omega⟩
        have cb := gk.2.2.2.2.2.1 z
        obtain ⟨s, hs⟩ : ∃ s : Nat, A 13 (47 + 7 * p) = (s : Int) := ⟨(A 13 (47 + 7 * p)).toNat, by omega⟩
        have of : cl mX9_of [vr 12, vi (p : Int), vi 0] (HP A F E) = some (vi (s : Int), HP A F E) := by
          have := h_of (A := A) (F := F) (E := E) (g := (p : Int)) (p := 0) wad_12 (by omega) (by omega) (by omega) (by omega)
          rw [this, show (47 + 7 * (p : Int) + 0).toNat = 47 + 7 * p by omega]
          show some (vi (A 13 (47 + 7 * p)), _) = _
          rw [hs]
        obtain ⟨T, t1, t2, t3⟩ := c_ways (A := A) (F := F) (E := E) (N := N) (s := s) r.1 hN (by omega) rfl
        have c2 : cfr A F (aup A 65 T) F := ⟨fun j _ _ j65 _ _ => aup_n j65, fun _ _ _ => rfl⟩
        have hA : (aup A 65 T) 113 = A 113 := aup_n (by omega)
        obtain ⟨W, v1, v2⟩ := m_wy_0 (g := (p : Int)) (w := (v : Int)) (x4 := vn) (x5 := vn) (E := E) 36 0 (aup A 65 T) F (by omega)
        have v1' : rn mX11_shortest 28 [vr 103, vi (p : Int), vi (v : Int), vi 0, vn, vn] [] (HP (aup A 65 T) F E) = _ := v1
        have ha : ach (nxF (A 13)) (stF (A 13)) (okF (A 13)) N s 100 (fup W s 0) := by
          refine ⟨fup_s, fun c hc => ?_⟩
          by_cases y : c = s
          · rw [y, fup_s]
            exact ⟨by omega, fun _ => ⟨0, 0, ⟨rfl, rfl⟩, rfl⟩⟩
          · rw [fup_n y, v2, if_pos (by omega)]
            exact ⟨by omega, fun q => by omega⟩
        have sm := sumN_bd (g := fup W s 0) (b := 100) N (fun j hj => (ha.2 j hj).1)
        obtain ⟨R, x4', x5', u1, u2, u3⟩ := m_wy_l (E := E) (g := (p : Int)) (w := (v : Int)) (s := s) r.1 hN 10000 (aup (aup A 65 T) 116 (fup W s 0)) F 1 vn vn (by rw [aup_s]; omega) (by rw [aup_n (by omega), hA]; exact sd) (Or.inr rfl) (by rw [aup_s]; exact ha) (fun q => by omega)
        rw [aup_aup] at u1
        have tw := two_ways (c := v) (show v < N by omega) t2 u2 (t3 v) (u3 v)
        have tb := (t2.2 v (by omega)).1
        have rb := (u2.2 v (by omega)).1
        have mg' := mg (aup A 65 T) F
        rw [hA, b.2.2.2.1, if_pos z0] at mg'
        have mo' := mo (aup A 65 T) F
        rw [hA, sg.2.2.1, if_pos z] at mo'
        have mc' := m_isCell (A := aup A 65 T) (F := F) (E := E) (c := (v : Int)) (by rw [hA]; omega) (by rw [hA]; omega)
        rw [hA, s13, if_pos z1] at mc'
        have ce := m_cellOf (A := aup (aup A 65 T) 116 W) (F := F) (E := E) (g := p) (by omega)
        rw [aup_n (by omega), hA, sg.2.2.2.2.2 z, hs] at ce
        refine prs_q h (v := if 99 < T v then -2 else T v) (A2 := aup (aup A 65 T) 116 R) (F2 := F) ?_ c2 (by rw [aup_n (by omega)]; exact h.2.2.1.1 14 wad_14) ?_ ⟨fun j _ _ j3 => aup_n (by omega), fun _ _ => rfl, fun _ _ _ _ _ _ => rfl⟩
        · by_cases y : 99 < T v
          · rw [if_pos y]
            simp (disch := omega) only [eX10_shortest, sX10_shortest_0, sX10_shortest_1, sX10_shortest_2, sX10_shortest_5, sX10_shortest_8, sX10_shortest_9, sX10_shortest_10, sX10_shortest_13, sX10_shortest_16, sX10_shortest_17, sX10_shortest_18, sX10_shortest_19, sX10_shortest_20, sX10_shortest_23, sX10_shortest_24, sX10_shortest_25, sX10_shortest_28, sX10_shortest_31, sX10_shortest_32, sX10_shortest_35, sX10_shortest_36, sX10_shortest_37, sX10_shortest_39, sX10_shortest_42, sX10_shortest_44, sX10_shortest_47, sX10_shortest_48, sX10_shortest_51, sX10_shortest_52, sX10_shortest_53, ↓hk1, ↓hf1_8, ↓hf1_15, ↓hk12, ↓bndi_at ig, ↓bndi_at ic, ↓bndi_at of, ↓bndv_at t1, ↓hg65, aup_s, Int.toNat_natCast, ↓if_pos, ↓if_neg]
          · rw [if_neg y]
            simp (disch := omega) only [eX10_shortest, sX10_shortest_0, sX10_shortest_1, sX10_shortest_2, sX10_shortest_5, sX10_shortest_8, sX10_shortest_9, sX10_shortest_10, sX10_shortest_13, sX10_shortest_16, sX10_shortest_17, sX10_shortest_18, sX10_shortest_19, sX10_shortest_20, sX10_shortest_23, sX10_shortest_24, sX10_shortest_25, sX10_shortest_28, sX10_shortest_31, sX10_shortest_32, sX10_shortest_35, sX10_shortest_36, sX10_shortest_37, sX10_shortest_39, sX10_shortest_42, sX10_shortest_44, sX10_shortest_47, sX10_shortest_48, sX10_shortest_51, sX10_shortest_52, sX10_shortest_53, ↓hk1, ↓hf1_8, ↓hf1_15, ↓hk12, ↓bndi_at ig, ↓bndi_at ic, ↓bndi_at of, ↓bndv_at t1, ↓hg65, aup_s, Int.toNat_natCast, ↓if_pos, ↓if_neg]
        · simp (disch := omega) only [eX11_shortest, sX11_shortest_0, sX11_shortest_1, sX11_shortest_2, sX11_shortest_5, sX11_shortest_8, sX11_shortest_9, sX11_shortest_10, sX11_shortest_13, sX11_shortest_16, sX11_shortest_17, sX11_shortest_18, sX11_shortest_21, sX11_shortest_24, sX11_shortest_25, sX11_shortest_26, sX11_shortest_27, sX11_shortest_29, sX11_shortest_31, sX11_shortest_34, sX11_shortest_35, sX11_shortest_38, sX11_shortest_39, sX11_shortest_41, sX11_shortest_42, sX11_shortest_45, sX11_shortest_49, sX11_shortest_52, sX11_shortest_53, sX11_shortest_54, sX11_shortest_57, sX11_shortest_58, sX11_shortest_59, sX11_shortest_60, sX11_shortest_62, sX11_shortest_65, sX11_shortest_66, sX11_shortest_67, sX11_shortest_68, sX11_shortest_72, sX11_shortest_73, sX11_shortest_76, sX11_shortest_79, sX11_shortest_80, sX11_shortest_84, sX11_shortest_85, sX11_shortest_88, sX11_shortest_89, sX11_shortest_92, sX11_shortest_94, sX11_shortest_95, sX11_shortest_97, sX11_shortest_100, sX11_shortest_101, sX11_shortest_103, sX11_shortest_105, sX11_shortest_108, sX11_shortest_111, sX11_shortest_112, sX11_shortest_113, sX11_shortest_116, sX11_shortest_119, sX11_shortest_122, sX11_shortest_125, sX11_shortest_128, sX11_shortest_129, sX11_shortest_132, sX11_shortest_133, sX11_shortest_134, sX11_shortest_136, sX11_shortest_139, sX11_shortest_141, sX11_shortest_144, sX11_shortest_145, sX11_shortest_148, sX11_shortest_149, sX11_shortest_150, ↓hk103, ↓bndi_at mg', ↓bndi_at mo', ↓bndi_at mc', ↓if_pos, ↓if_neg]
          rw [v1']
          simp (disch := omega) only [eX11_shortest, sX11_shortest_0, sX11_shortest_1, sX11_shortest_2, sX11_shortest_5, sX11_shortest_8, sX11_shortest_9, sX11_shortest_10, sX11_shortest_13, sX11_shortest_16, sX11_shortest_17, sX11_shortest_18, sX11_shortest_21, sX11_shortest_24, sX11_shortest_25, sX11_shortest_26, sX11_shortest_27, sX11_shortest_29, sX11_shortest_31, sX11_shortest_34, sX11_shortest_35, sX11_shortest_38, sX11_shortest_39, sX11_shortest_41, sX11_shortest_42, sX11_shortest_45, sX11_shortest_48, sX11_shortest_49, sX11_shortest_52, sX11_shortest_53, sX11_shortest_54, sX11_shortest_57, sX11_shortest_58, sX11_shortest_59, sX11_shortest_60, sX11_shortest_62, sX11_shortest_65, sX11_shortest_66, sX11_shortest_67, sX11_shortest_68, sX11_shortest_72, sX11_shortest_73, sX11_shortest_76, sX11_shortest_79, sX11_shortest_80, sX11_shortest_84, sX11_shortest_85, sX11_shortest_88, sX11_shortest_89, sX11_shortest_92, sX11_shortest_94, sX11_shortest_95, sX11_shortest_97, sX11_shortest_100, sX11_shortest_101, sX11_shortest_103, sX11_shortest_105, sX11_shortest_108, sX11_shortest_111, sX11_shortest_112, sX11_shortest_113, sX11_shortest_116, sX11_shortest_119, sX11_shortest_122, sX11_shortest_125, sX11_shortest_128, sX11_shortest_129, sX11_shortest_132, sX11_shortest_133, sX11_shortest_134, sX11_shortest_136, sX11_shortest_139, sX11_shortest_141, sX11_shortest_144, sX11_shortest_145, sX11_shortest_148, sX11_shortest_149, sX11_shortest_150, ↓hk103, ↓hf103_26, ↓bndi_at ce, ↓hs116, aup_s, aup_aup, Int.toNat_natCast]
          rw [u1, tw]
          by_cases y : 99 < R v
          · rw [if_pos y]
            simp (disch := omega) only [eX11_shortest, sX11_shortest_0, sX11_shortest_1, sX11_shortest_2, sX11_shortest_5, sX11_shortest_8, sX11_shortest_9, sX11_shortest_10, sX11_shortest_13, sX11_shortest_16, sX11_shortest_17, sX11_shortest_18, sX11_shortest_21, sX11_shortest_24, sX11_shortest_25, sX11_shortest_26, sX11_shortest_27, sX11_shortest_29, sX11_shortest_31, sX11_shortest_34, sX11_shortest_35, sX11_shortest_38, sX11_shortest_39, sX11_shortest_41, sX11_shortest_42, sX11_shortest_45, sX11_shortest_48, sX11_shortest_49, sX11_shortest_52, sX11_shortest_53, sX11_shortest_54, sX11_shortest_57, sX11_shortest_58, sX11_shortest_59, sX11_shortest_60, sX11_shortest_62, sX11_shortest_65, sX11_shortest_66, sX11_shortest_67, sX11_shortest_68, sX11_shortest_72, sX11_shortest_73, sX11_shortest_76, sX11_shortest_79, sX11_shortest_80, sX11_shortest_84, sX11_shortest_85, sX11_shortest_88, sX11_shortest_89, sX11_shortest_92, sX11_shortest_94, sX11_shortest_95, sX11_shortest_97, sX11_shortest_100, sX11_shortest_101, sX11_shortest_103, sX11_shortest_105, sX11_shortest_108, sX11_shortest_111, sX11_shortest_112, sX11_shortest_113, sX11_shortest_116, sX11_shortest_119, sX11_shortest_122, sX11_shortest_125, sX11_shortest_128, sX11_shortest_129, sX11_shortest_132, sX11_shortest_133, sX11_shortest_134, sX11_shortest_136, sX11_shortest_139, sX11_shortest_141, sX11_shortest_144, sX11_shortest_145, sX11_shortest_148, sX11_shortest_149, sX11_shortest_150, ↓hf103_26, ↓hg116, aup_s, Int.toNat_natCast, ↓if_pos, ↓if_neg]
          · rw [if_neg y]
            simp (disch := omega) only [eX11_shortest, sX11_shortest_0, sX11_shortest_1, sX11_shortest_2, sX11_shortest_5, sX11_shortest_8, sX11_shortest_9, sX11_shortest_10, sX11_shortest_13, sX11_shortest_16, sX11_shortest_17, sX11_shortest_18, sX11_shortest_21, sX11_shortest_24, sX11_shortest_25, sX11_shortest_26, sX11_shortest_27, sX11_shortest_29, sX11_shortest_31, sX11_shortest_34, sX11_shortest_35, sX11_shortest_38, sX11_shortest_39, sX11_shortest_41, sX11_shortest_42, sX11_shortest_45, sX11_shortest_48, sX11_shortest_49, sX11_shortest_52, sX11_shortest_53, sX11_shortest_54, sX11_shortest_57, sX11_shortest_58, sX11_shortest_59, sX11_shortest_60, sX11_shortest_62, sX11_shortest_65, sX11_shortest_66, sX11_shortest_67, sX11_shortest_68, sX11_shortest_72, sX11_shortest_73, sX11_shortest_76, sX11_shortest_79, sX11_shortest_80, sX11_shortest_84, sX11_shortest_85, sX11_shortest_88, sX11_shortest_89, sX11_shortest_92, sX11_shortest_94, sX11_shortest_95, sX11_shortest_97, sX11_shortest_100, sX11_shortest_101, sX11_shortest_103, sX11_shortest_105, sX11_shortest_108, sX11_shortest_111, sX11_shortest_112, sX11_shortest_113, sX11_shortest_116, sX11_shortest_119, sX11_shortest_122, sX11_shortest_125, sX11_shortest_128, sX11_shortest_129, sX11_shortest_132, sX11_shortest_133, sX11_shortest_134, sX11_shortest_136, sX11_shortest_139, sX11_shortest_141, sX11_shortest_144, sX11_shortest_145, sX11_shortest_148, sX11_shortest_149, sX11_shortest_150, ↓hf103_26, ↓hg116, aup_s, Int.toNat_natCast, ↓if_pos, ↓if_neg]
      · rw [if_neg z1] at ic
        have mg' := mg A F
        rw [b.2.2.2.1, if_pos z0] at mg'
        have mo' := mo A F
        rw [sg.2.2.1, if_pos z] at mo'
        have mc' := m_isCell (A := A) (F := F) (E := E) (c := w) (by omega) (by omega)
        rw [s13, if_neg z1] at mc'
        refine prs_0 (v := -1) h ?_ ?_
        · simp (disch := omega) only [eX10_shortest, sX10_shortest_0, sX10_shortest_1, sX10_shortest_2, sX10_shortest_5, sX10_shortest_8, sX10_shortest_9, sX10_shortest_10, sX10_shortest_13, sX10_shortest_16, sX10_shortest_17, sX10_shortest_18, sX10_shortest_19, sX10_shortest_20, sX10_shortest_23, sX10_shortest_24, sX10_shortest_25, sX10_shortest_28, sX10_shortest_31, sX10_shortest_32, sX10_shortest_35, sX10_shortest_36, sX10_shortest_37, sX10_shortest_39, sX10_shortest_42, sX10_shortest_44, sX10_shortest_47, sX10_shortest_48, sX10_shortest_51, sX10_shortest_52, sX10_shortest_53, ↓hk1, ↓bndi_at ig, ↓bndi_at ic, ↓if_pos, ↓if_neg]
        · simp (disch := omega) only [eX11_shortest, sX11_shortest_0, sX11_shortest_1, sX11_shortest_2, sX11_shortest_5, sX11_shortest_8, sX11_shortest_9, sX11_shortest_10, sX11_shortest_13, sX11_shortest_16, sX11_shortest_17, sX11_shortest_18, sX11_shortest_21, sX11_shortest_24, sX11_shortest_25, sX11_shortest_26, sX11_shortest_27, sX11_shortest_29, sX11_shortest_31, sX11_shortest_34, sX11_shortest_35, sX11_shortest_38, sX11_shortest_39, sX11_shortest_41, sX11_shortest_42, sX11_shortest_45, sX11_shortest_48, sX11_shortest_49, sX11_shortest_52, sX11_shortest_53, sX11_shortest_54, sX11_shortest_57, sX11_shortest_58, sX11_shortest_59, sX11_shortest_60, sX11_shortest_62, sX11_shortest_65, sX11_shortest_66, sX11_shortest_67, sX11_shortest_68, sX11_shortest_72, sX11_shortest_73, sX11_shortest_76, sX11_shortest_79, sX11_shortest_80, sX11_shortest_84, sX11_shortest_85, sX11_shortest_88, sX11_shortest_89, sX11_shortest_92, sX11_shortest_94, sX11_shortest_95, sX11_shortest_97, sX11_shortest_100, sX11_shortest_101, sX11_shortest_103, sX11_shortest_105, sX11_shortest_108, sX11_shortest_111, sX11_shortest_112, sX11_shortest_113, sX11_shortest_116, sX11_shortest_119, sX11_shortest_122, sX11_shortest_125, sX11_shortest_128, sX11_shortest_129, sX11_shortest_132, sX11_shortest_133, sX11_shortest_134, sX11_shortest_136, sX11_shortest_139, sX11_shortest_141, sX11_shortest_144, sX11_shortest_145, sX11_shortest_148, sX11_shortest_149, sX11_shortest_150, ↓hk103, ↓bndi_at mg', ↓bndi_at mo', ↓bndi_at mc', ↓if_pos, ↓if_neg]
    · rw [if_neg (fun q => z q.2)] at ig
      have mg' := mg A F
      rw [b.2.2.2.1, if_pos z0] at mg'
      have mo' := mo A F
      rw [sg.2.2.1, if_neg z] at mo'
      refine prs_0 (v := -1) h ?_ ?_
      · simp (disch := omega) only [eX10_shortest, sX10_shortest_0, sX10_shortest_1, sX10_shortest_2, sX10_shortest_5, sX10_shortest_8, sX10_shortest_9, sX10_shortest_10, sX10_shortest_13, sX10_shortest_16, sX10_shortest_17, sX10_shortest_18, sX10_shortest_19, sX10_shortest_20, sX10_shortest_23, sX10_shortest_24, sX10_shortest_25, sX10_shortest_28, sX10_shortest_31, sX10_shortest_32, sX10_shortest_35, sX10_shortest_36, sX10_shortest_37, sX10_shortest_39, sX10_shortest_42, sX10_shortest_44, sX10_shortest_47, sX10_shortest_48, sX10_shortest_51, sX10_shortest_52, sX10_shortest_53, ↓hk1, ↓bndi_at ig, ↓if_pos, ↓if_neg]
      · simp (disch := omega) only [eX11_shortest, sX11_shortest_0, sX11_shortest_1, sX11_shortest_2, sX11_shortest_5, sX11_shortest_8, sX11_shortest_9, sX11_shortest_10, sX11_shortest_13, sX11_shortest_16, sX11_shortest_17, sX11_shortest_18, sX11_shortest_21, sX11_shortest_24, sX11_shortest_25, sX11_shortest_26, sX11_shortest_27, sX11_shortest_29, sX11_shortest_31, sX11_shortest_34, sX11_shortest_35, sX11_shortest_38, sX11_shortest_39, sX11_shortest_41, sX11_shortest_42, sX11_shortest_45, sX11_shortest_48, sX11_shortest_49, sX11_shortest_52, sX11_shortest_53, sX11_shortest_54, sX11_shortest_57, sX11_shortest_58, sX11_shortest_59, sX11_shortest_60, sX11_shortest_62, sX11_shortest_65, sX11_shortest_66, sX11_shortest_67, sX11_shortest_68, sX11_shortest_72, sX11_shortest_73, sX11_shortest_76, sX11_shortest_79, sX11_shortest_80, sX11_shortest_84, sX11_shortest_85, sX11_shortest_88, sX11_shortest_89, sX11_shortest_92, sX11_shortest_94, sX11_shortest_95, sX11_shortest_97, sX11_shortest_100, sX11_shortest_101, sX11_shortest_103, sX11_shortest_105, sX11_shortest_108, sX11_shortest_111, sX11_shortest_112, sX11_shortest_113, sX11_shortest_116, sX11_shortest_119, sX11_shortest_122, sX11_shortest_125, sX11_shortest_128, sX11_shortest_129, sX11_shortest_132, sX11_shortest_133, sX11_shortest_134, sX11_shortest_136, sX11_shortest_139, sX11_shortest_141, sX11_shortest_144, sX11_shortest_145, sX11_shortest_148, sX11_shortest_149, sX11_shortest_150, ↓hk103, ↓bndi_at mg', ↓bndi_at mo', ↓if_pos, ↓if_neg]
  · have mg' := mg A F
    rw [b.2.2.2.1, if_neg z0] at mg'
    rw [if_neg (fun q => z0 q.1)] at ig
    refine prs_0 (v := -1) h ?_ ?_
    · simp (disch := omega) only [eX10_shortest, sX10_shortest_0, sX10_shortest_1, sX10_shortest_2, sX10_shortest_5, sX10_shortest_8, sX10_shortest_9, sX10_shortest_10, sX10_shortest_13, sX10_shortest_16, sX10_shortest_17, sX10_shortest_18, sX10_shortest_19, sX10_shortest_20, sX10_shortest_23, sX10_shortest_24, sX10_shortest_25, sX10_shortest_28, sX10_shortest_31, sX10_shortest_32, sX10_shortest_35, sX10_shortest_36, sX10_shortest_37, sX10_shortest_39, sX10_shortest_42, sX10_shortest_44, sX10_shortest_47, sX10_shortest_48, sX10_shortest_51, sX10_shortest_52, sX10_shortest_53, ↓hk1, ↓bndi_at ig, ↓if_pos, ↓if_neg]
    · simp (disch := omega) only [eX11_shortest, sX11_shortest_0, sX11_shortest_1, sX11_shortest_2, sX11_shortest_5, sX11_shortest_8, sX11_shortest_9, sX11_shortest_10, sX11_shortest_13, sX11_shortest_16, sX11_shortest_17, sX11_shortest_18, sX11_shortest_21, sX11_shortest_24, sX11_shortest_25, sX11_shortest_26, sX11_shortest_27, sX11_shortest_29, sX11_shortest_31, sX11_shortest_34, sX11_shortest_35, sX11_shortest_38, sX11_shortest_39, sX11_shortest_41, sX11_shortest_42, sX11_shortest_45, sX11_shortest_48, sX11_shortest_49, sX11_shortest_52, sX11_shortest_53, sX11_shortest_54, sX11_shortest_57, sX11_shortest_58, sX11_shortest_59, sX11_shortest_60, sX11_shortest_62, sX11_shortest_65, sX11_shortest_66, sX11_shortest_67, sX11_shortest_68, sX11_shortest_72, sX11_shortest_73, sX11_shortest_76, sX11_shortest_79, sX11_shortest_80, sX11_shortest_84, sX11_shortest_85, sX11_shortest_88, sX11_shortest_89, sX11_shortest_92, sX11_shortest_94, sX11_shortest_95, sX11_shortest_97, sX11_shortest_100, sX11_shortest_101, sX11_shortest_103, sX11_shortest_105, sX11_shortest_108, sX11_shortest_111, sX11_shortest_112, sX11_shortest_113, sX11_shortest_116, sX11_shortest_119, sX11_shortest_122, sX11_shortest_125, sX11_shortest_128, sX11_shortest_129, sX11_shortest_132, sX11_shortest_133, sX11_shortest_134, sX11_shortest_136, sX11_shortest_139, sX11_shortest_141, sX11_shortest_144, sX11_shortest_145, sX11_shortest_148, sX11_shortest_149, sX11_shortest_150, ↓hk103, ↓bndi_at mg', ↓if_pos, ↓if_neg]
end SM
