/-! sheet, the call -/
section KS
variable {A F : Nat → Nat → Int} {E : zE} {b W nf : Nat → Int} {L n : Int} {X : Int × Int × Int × Int}
theorem scl_o {c : Int} (hw : swo W n) (n0 : 0 ≤ n) (c0 : -1 ≤ c ∧ c ≤ 3) (hX : 0 ≤ (tnx b L X.1 X.2.2.2).2.1) (hR : 0 ≤ (rnu b W L c (smn c) 0 (tnx b L X.1 X.2.2.2) nf).2.1.2.1) : ((scl b L n W X nf c).1 = 0 ∧ swo (scl b L n W X nf c).2.1 (n + 1)) ∨ ((scl b L n W X nf c).1 ≠ 0 ∧ (scl b L n W X nf c).2.1 = W) := by
  have sb := sfc_b (G := W 1) (c := c) (b := n)
  unfold scl
  by_cases z : sfc (W 1) c n = -1
  · rw [if_pos z]
    have cn1 := (sfc_in z).1
    have rw' := rnu_w (f := b) (W := W) (L := L) (c := c) (smn c) 0 (tnx b L X.1 X.2.2.2) nf
    have rn' := (rnu_n (f := b) (W := W) (L := L) (c := c) (smn c) 0 (tnx b L X.1 X.2.2.2) nf).2
    generalize rnu b W L c (smn c) 0 (tnx b L X.1 X.2.2.2) nf = R at *
    by_cases y : R.1 = -1
    · rw [if_pos y]
      exact Or.inl ⟨rfl, stk_wo hw n0 z (by omega) (fun j hj => rn' y j (by omega) (by omega))⟩
    · rw [if_neg y]
      exact Or.inr ⟨by dsimp only; omega, rfl⟩
  · rw [if_neg z]
    exact Or.inr ⟨by dsimp only; omega, rfl⟩
theorem cwd_b {s : Int} : -1 ≤ cwd b L s ∧ cwd b L s ≤ 3 := by
  unfold cwd
  split
  · omega
  · split
    · omega
    · split
      · omega
      · split <;> omega
theorem srd_cn (hb : ∀ j, 0 ≤ b j ∧ b j ≤ 255) (hL : L ≤ 400) : ∀ (m : Nat) (n : Int) (W : Nat → Int) (X : Int × Int × Int × Int) (nf : Nat → Int), t4k L X → swo W n → 0 ≤ n → cn 82 (srd b cCl 21 L m n W X nf).2.1
  | 0, _, _, _, _, _, h, _ => h.1
  | m + 1, n, W, X, nf, hX, h, n0 => by
    rw [srd_e hb hX]
    obtain ⟨⟨x1, x2⟩, x3, x4, x5⟩ := id hX
    have kb := sk_b (b := b) x3
    have tc := (tnx_c (va := X.2.2.2) hb x2 x3).1
    have tb := t_pl (b := b) (L := L) (p := X.1) (va := X.2.2.2) ⟨x2, x3⟩ ⟨x4, x5⟩
    have st := scl_t (n := n) (W := W) (nf := nf) (c := cwd b L (sk b L X.1)) hb hL hX
    have so := scl_o (b := b) (L := L) (X := X) (nf := nf) (c := cwd b L (sk b L X.1)) h n0 cwd_b (by omega) (rnu_t (f := b) (W := W) (L := L) (c := cwd b L (sk b L X.1)) hb (smn (cwd b L (sk b L X.1))) 0 (tnx b L X.1 X.2.2.2) nf ⟨⟨by omega, tb.1.1⟩, tb.1.2, tb.2⟩).1.1
    generalize scl b L n W X nf (cwd b L (sk b L X.1)) = S at *
    obtain ⟨⟨y1, y2⟩, y3, y4, y5⟩ := id st.1
    have kb2 := sk_b (b := b) y3
    have tc2 := (tnx_c (va := S.2.2.1.2.2.2) hb y2 y3).1
    have tb2 := t_pl (b := b) (L := L) (p := S.2.2.1.1) (va := S.2.2.1.2.2.2) ⟨y2, y3⟩ ⟨y4, y5⟩
    have t1 : t4k L (tnx b L S.2.2.1.1 S.2.2.1.2.2.2) := ⟨⟨by omega, tb2.1.1⟩, tb2.1.2, tb2.2⟩
    rcases so with ⟨o1, o2⟩ | ⟨o1, o2⟩
    · rw [if_pos o1]
      split
      · exact o2.1
      · split
        · exact srd_cn hb hL m (n + 1) _ _ _ t1 o2 (by omega)
        · exact o2.1
    · rw [if_neg o1, o2]
      exact h.1
theorem srd_f (hb : ∀ j, 0 ≤ b j ∧ b j ≤ 255) (hL : L ≤ 400) : ∀ (m : Nat) (n : Int) (W : Nat → Int) (X : Int × Int × Int × Int) (nf : Nat → Int), t4k L X → X.2.1 ≤ 400 → 0 ≤ (srd b cCl 21 L m n W X nf).1 ∧ (srd b cCl 21 L m n W X nf).1 ≤ 4000
  | 0, _, _, X, _, hX, hs => by
    have := hX.1.1
    rw [srd]; dsimp only; omega
  | m + 1, n, W, X, nf, hX, hs => by
    rw [srd_e hb hX]
    obtain ⟨⟨x1, x2⟩, x3, x4, x5⟩ := id hX
    have kb := sk_b (b := b) x3
    have tc := (tnx_c (va := X.2.2.2) hb x2 x3).1
    have tb := t_pl (b := b) (L := L) (p := X.1) (va := X.2.2.2) ⟨x2, x3⟩ ⟨x4, x5⟩
    have st := scl_t (n := n) (W := W) (nf := nf) (c := cwd b L (sk b L X.1)) hb hL hX
    have sf : 0 ≤ (scl b L n W X nf (cwd b L (sk b L X.1))).1 ∧ (scl b L n W X nf (cwd b L (sk b L X.1))).1 ≤ 4000 := by
      generalize cwd b L (sk b L X.1) = c
      have sb := sfc_b (G := W 1) (c := c) (b := n)
      have t1 : t4k L (tnx b L X.1 X.2.2.2) := ⟨⟨by omega, tb.1.1⟩, tb.1.2, tb.2⟩
      have rw' := rnu_w (f := b) (W := W) (L := L) (c := c) (smn c) 0 (tnx b L X.1 X.2.2.2) nf
      have rt := (rnu_t (f := b) (W := W) (L := L) (c := c) hb (smn c) 0 (tnx b L X.1 X.2.2.2) nf t1).1.1
      have rs := rnu_s (f := b) (W := W) (L := L) (c := c) hL (smn c) 0 (tnx b L X.1 X.2.2.2) nf t1 (by omega)
      unfold scl
      split
      · split
        · dsimp only; omega
        · dsimp only; omega
      · dsimp only; omega
    generalize scl b L n W X nf (cwd b L (sk b L X.1)) = S at *
    obtain ⟨⟨y1, y2⟩, y3, y4, y5⟩ := id st.1
    have kb2 := sk_b (b := b) y3
    have tc2 := (tnx_c (va := S.2.2.1.2.2.2) hb y2 y3).1
    have tb2 := t_pl (b := b) (L := L) (p := S.2.2.1.1) (va := S.2.2.1.2.2.2) ⟨y2, y3⟩ ⟨y4, y5⟩
    have t1 : t4k L (tnx b L S.2.2.1.1 S.2.2.1.2.2.2) := ⟨⟨by omega, tb2.1.1⟩, tb2.1.2, tb2.2⟩
    split
    · split
      · dsimp only; omega
      · split
        · exact srd_f hb hL m (n + 1) _ _ _ t1 (by omega)
        · dsimp only; omega
    · exact sf
/-- the class reads a sheet in the whole heap -/
theorem E_sread (h : inv A F E) : cl mX7_read [vr 4, vr 2, vr 14] (HP A F E) = some (vi (srd (A 3) cCl 21 (F 2 1) 41 0 wz (0, F 2 3, F 2 4, F 2 5) (A 5)).1, HP (aup (aup A 15 (srd (A 3) cCl 21 (F 2 1) 41 0 wz (0, F 2 3, F 2 4, F 2 5) (A 5)).2.1) 5 (srd (A 3) cCl 21 (F 2 1) 41 0 wz (0, F 2 3, F 2 4, F 2 5) (A 5)).2.2.2) (aup (aup F 14 (fup (F 14) 1 (-1))) 2 (fup (fup (fup (fup (fup (F 2) 1 (F 2 1)) 2 (srd (A 3) cCl 21 (F 2 1) 41 0 wz (0, F 2 3, F 2 4, F 2 5) (A 5)).2.2.1.1) 3 (srd (A 3) cCl 21 (F 2 1) 41 0 wz (0, F 2 3, F 2 4, F 2 5) (A 5)).2.2.1.2.1) 4 (srd (A 3) cCl 21 (F 2 1) 41 0 wz (0, F 2 3, F 2 4, F 2 5) (A 5)).2.2.1.2.2.1) 5 (srd (A 3) cCl 21 (F 2 1) 41 0 wz (0, F 2 3, F 2 4, F 2 5) (A 5)).2.2.1.2.2.2)) E) := by
  obtain ⟨hT, hR, hW, hS, hH, hI⟩ := h
  obtain ⟨T1, T2, T3, T4, T5, T6⟩ := hT
  have w := hp_w (A := A) (F := F) (E := E) wad_14
  have er : wr (HP A F E) 14 = 15 := w.2.1
  have r := S_read (h := HP A F E) (t := 2) (y := 3) (a := 14) (q := 4) (n := 5) (L := F 2 1) (p := F 2 2) (s := F 2 3) (kd := F 2 4) (va := F 2 5) (f := A 3) (nf := A 5) rfl T3 T1.1 T1.2 w.1 (by rw [w.2.2.2]; exact hW.1 14 wad_14) rfl rfl rfl T5.1 T5.2 T6.1 T6.2 (by omega) (by omega) (by omega) (by omega) (by rw [er]; omega) (by rw [er]; omega) (by omega) (by omega) (by omega) (by rw [er]; omega) (by rw [er]; omega) (by omega) (by omega)
  generalize srd (A 3) cCl 21 (F 2 1) 41 0 wz (0, F 2 3, F 2 4, F 2 5) (A 5) = S at *
  have e : shp (wlu (HP A F E) 14 (-1)) 2 3 14 5 (F 2 1) S.2.1 S.2.2.1 S.2.2.2 = HP (aup (aup A 15 S.2.1) 5 S.2.2.2) (aup (aup F 14 (fup (F 14) 1 (-1))) 2 (fup (fup (fup (fup (fup (F 2) 1 (F 2 1)) 2 S.2.2.1.1) 3 S.2.2.1.2.1) 4 S.2.2.1.2.2.1) 5 S.2.2.1.2.2.2)) E := by
    unfold shp tx4
    rw [hp_lu wad_14, hp_st wad_14, show zup (HP (aup A (14 + 1) S.2.1) (aup F 14 (fup (F 14) 1 (-1))) E) 5 (zar 1 3 S.2.2.2) = HP (aup (aup A (14 + 1) S.2.1) 5 S.2.2.2) (aup F 14 (fup (F 14) 1 (-1))) E from zup_HPa rfl, txs_HP, aup_n (show (2 : Nat) ≠ 14 by omega)]
  rw [e] at r
  exact r
theorem m_s0_l : ∀ (m k : Nat) (A F : Nat → Nat → Int), k + m = 145 → ∃ R, rn mX11_sheet 8 [vr 103, vi (k : Int)] [] (HP A F E) = rn mX11_sheet 28 [vr 103, vi 145] [] (HP (aup A 109 R) F E) ∧ ∀ j, R j = if k ≤ j ∧ j < 145 then 0 else A 109 j := by
  intro m
  induction m with
  | zero =>
    intro k A F hk
    have : k = 145 := by omega
    subst this
    refine ⟨A 109, ?_, fun j => by rw [if_neg (by omega)]⟩
    rw [sX11_sheet_8, aup_id]
    simp (disch := omega) only [eX11_sheet, sX11_sheet_0, sX11_sheet_1, sX11_sheet_3, sX11_sheet_6, sX11_sheet_7, sX11_sheet_9, sX11_sheet_12, sX11_sheet_15, sX11_sheet_16, sX11_sheet_19, sX11_sheet_20, sX11_sheet_21, sX11_sheet_22, sX11_sheet_25, sX11_sheet_29, sX11_sheet_31, sX11_sheet_32, sX11_sheet_35, sX11_sheet_36, sX11_sheet_39, sX11_sheet_41, sX11_sheet_42, sX11_sheet_43, sX11_sheet_44, sX11_sheet_45, sX11_sheet_48, sX11_sheet_51, sX11_sheet_52, sX11_sheet_55, sX11_sheet_58, sX11_sheet_60, sX11_sheet_61, sX11_sheet_64, sX11_sheet_65, sX11_sheet_66, sX11_sheet_67, sX11_sheet_69, sX11_sheet_72, sX11_sheet_75, sX11_sheet_76, sX11_sheet_79, sX11_sheet_80, sX11_sheet_81, sX11_sheet_84, sX11_sheet_87, sX11_sheet_88, sX11_sheet_91, sX11_sheet_92, sX11_sheet_93, sX11_sheet_96, sX11_sheet_97, sX11_sheet_98, sX11_sheet_101, sX11_sheet_104, sX11_sheet_105, sX11_sheet_108, sX11_sheet_109, sX11_sheet_110, sX11_sheet_113, sX11_sheet_114, sX11_sheet_117, sX11_sheet_118, sX11_sheet_119, ↓if_pos]
    rfl
  | succ m ih =>
    intro k A F hk
    obtain ⟨R, r1, r2⟩ := ih (k + 1) (aup A 109 (fup (A 109) k 0)) F (by omega)
    rw [aup_aup] at r1
    refine ⟨R, ?_, fun j => ?_⟩
    · rw [← r1, sX11_sheet_8]
      simp (disch := omega) only [eX11_sheet, sX11_sheet_0, sX11_sheet_1, sX11_sheet_3, sX11_sheet_6, sX11_sheet_7, sX11_sheet_9, sX11_sheet_12, sX11_sheet_15, sX11_sheet_16, sX11_sheet_19, sX11_sheet_20, sX11_sheet_21, sX11_sheet_22, sX11_sheet_25, sX11_sheet_29, sX11_sheet_31, sX11_sheet_32, sX11_sheet_35, sX11_sheet_36, sX11_sheet_39, sX11_sheet_41, sX11_sheet_42, sX11_sheet_43, sX11_sheet_44, sX11_sheet_45, sX11_sheet_48, sX11_sheet_51, sX11_sheet_52, sX11_sheet_55, sX11_sheet_58, sX11_sheet_60, sX11_sheet_61, sX11_sheet_64, sX11_sheet_65, sX11_sheet_66, sX11_sheet_67, sX11_sheet_69, sX11_sheet_72, sX11_sheet_75, sX11_sheet_76, sX11_sheet_79, sX11_sheet_80, sX11_sheet_81, sX11_sheet_84, sX11_sheet_87, sX11_sheet_88, sX11_sheet_91, sX11_sheet_92, sX11_sheet_93, sX11_sheet_96, sX11_sheet_97, sX11_sheet_98, sX11_sheet_101, sX11_sheet_104, sX11_sheet_105, sX11_sheet_108, sX11_sheet_109, sX11_sheet_110, sX11_sheet_113, sX11_sheet_114, sX11_sheet_117, sX11_sheet_118, sX11_sheet_119, ↓hf103_7, ↓hs109, Int.toNat_natCast, ↓if_neg, i32_s]
    · rw [r2, aup_s]
      by_cases q : j = k
      · subst q; rw [if_neg (show ¬ (j + 1 ≤ j ∧ j < 145) by omega), if_pos (show j ≤ j ∧ j < 145 by omega), fup_s]
      · by_cases q2' : k ≤ j ∧ j < 145
        · rw [if_pos (by omega), if_pos q2']
        · rw [if_neg (by omega), if_neg q2', fup_n q]
theorem m_sa_l : ∀ (m k : Nat) (A F : Nat → Nat → Int), k + m = 176 → ∃ S, rn mX11_sheet 68 [vr 103, vi (k : Int)] [] (HP A F E) = rn mX11_sheet 104 [vr 103, vi 176] [] (HP (aup A 113 S) F E) ∧ ∀ j, S j = if k ≤ j ∧ j < 176 then (if j < 145 then A 109 j else 0) else A 113 j := by
  intro m
  induction m with
  | zero =>
    intro k A F hk
    have : k = 176 := by omega
    subst this
    refine ⟨A 113, ?_, fun j => by rw [if_neg (by omega)]⟩
    rw [sX11_sheet_68, aup_id]
    simp (disch := omega) only [eX11_sheet, sX11_sheet_0, sX11_sheet_1, sX11_sheet_3, sX11_sheet_6, sX11_sheet_7, sX11_sheet_9, sX11_sheet_12, sX11_sheet_15, sX11_sheet_16, sX11_sheet_19, sX11_sheet_20, sX11_sheet_21, sX11_sheet_22, sX11_sheet_25, sX11_sheet_28, sX11_sheet_29, sX11_sheet_31, sX11_sheet_32, sX11_sheet_35, sX11_sheet_36, sX11_sheet_39, sX11_sheet_41, sX11_sheet_42, sX11_sheet_43, sX11_sheet_44, sX11_sheet_45, sX11_sheet_48, sX11_sheet_51, sX11_sheet_52, sX11_sheet_55, sX11_sheet_58, sX11_sheet_60, sX11_sheet_61, sX11_sheet_64, sX11_sheet_65, sX11_sheet_66, sX11_sheet_67, sX11_sheet_69, sX11_sheet_72, sX11_sheet_75, sX11_sheet_76, sX11_sheet_79, sX11_sheet_80, sX11_sheet_81, sX11_sheet_84, sX11_sheet_87, sX11_sheet_88, sX11_sheet_91, sX11_sheet_92, sX11_sheet_93, sX11_sheet_96, sX11_sheet_97, sX11_sheet_98, sX11_sheet_101, sX11_sheet_105, sX11_sheet_108, sX11_sheet_109, sX11_sheet_110, sX11_sheet_113, sX11_sheet_114, sX11_sheet_117, sX11_sheet_118, sX11_sheet_119, ↓if_pos]
    rfl
  | succ m ih =>
    intro k A F hk
    obtain ⟨R, r1, r2⟩ := ih (k + 1) (aup A 113 (fup (A 113) k (if k < 145 then A 109 k else 0))) F (by omega)
    rw [aup_aup] at r1
    refine ⟨R, ?_, fun j => ?_⟩
    · rw [← r1, sX11_sheet_68]
      by_cases z : k < 145
      · rw [if_pos z]
        simp (disch := omega) only [eX11_sheet, sX11_sheet_0, sX11_sheet_1, sX11_sheet_3, sX11_sheet_6, sX11_sheet_7, sX11_sheet_9, sX11_sheet_12, sX11_sheet_15, sX11_sheet_16, sX11_sheet_19, sX11_sheet_20, sX11_sheet_21, sX11_sheet_22, sX11_sheet_25, sX11_sheet_28, sX11_sheet_29, sX11_sheet_31, sX11_sheet_32, sX11_sheet_35, sX11_sheet_36, sX11_sheet_39, sX11_sheet_41, sX11_sheet_42, sX11_sheet_43, sX11_sheet_44, sX11_sheet_45, sX11_sheet_48, sX11_sheet_51, sX11_sheet_52, sX11_sheet_55, sX11_sheet_58, sX11_sheet_60, sX11_sheet_61, sX11_sheet_64, sX11_sheet_65, sX11_sheet_66, sX11_sheet_67, sX11_sheet_69, sX11_sheet_72, sX11_sheet_75, sX11_sheet_76, sX11_sheet_79, sX11_sheet_80, sX11_sheet_81, sX11_sheet_84, sX11_sheet_87, sX11_sheet_88, sX11_sheet_91, sX11_sheet_92, sX11_sheet_93, sX11_sheet_96, sX11_sheet_97, sX11_sheet_98, sX11_sheet_101, sX11_sheet_105, sX11_sheet_108, sX11_sheet_109, sX11_sheet_110, sX11_sheet_113, sX11_sheet_114, sX11_sheet_117, sX11_sheet_118, sX11_sheet_119, ↓hf103_7, ↓hf103_20, ↓hg109, ↓hs113, Int.toNat_natCast, ↓if_pos, ↓if_neg, i32_s]
      · rw [if_neg z]
        simp (disch := omega) only [eX11_sheet, sX11_sheet_0, sX11_sheet_1, sX11_sheet_3, sX11_sheet_6, sX11_sheet_7, sX11_sheet_9, sX11_sheet_12, sX11_sheet_15, sX11_sheet_16, sX11_sheet_19, sX11_sheet_20, sX11_sheet_21, sX11_sheet_22, sX11_sheet_25, sX11_sheet_28, sX11_sheet_29, sX11_sheet_31, sX11_sheet_32, sX11_sheet_35, sX11_sheet_36, sX11_sheet_39, sX11_sheet_41, sX11_sheet_42, sX11_sheet_43, sX11_sheet_44, sX11_sheet_45, sX11_sheet_48, sX11_sheet_51, sX11_sheet_52, sX11_sheet_55, sX11_sheet_58, sX11_sheet_60, sX11_sheet_61, sX11_sheet_64, sX11_sheet_65, sX11_sheet_66, sX11_sheet_67, sX11_sheet_69, sX11_sheet_72, sX11_sheet_75, sX11_sheet_76, sX11_sheet_79, sX11_sheet_80, sX11_sheet_81, sX11_sheet_84, sX11_sheet_87, sX11_sheet_88, sX11_sheet_91, sX11_sheet_92, sX11_sheet_93, sX11_sheet_96, sX11_sheet_97, sX11_sheet_98, sX11_sheet_101, sX11_sheet_105, sX11_sheet_108, sX11_sheet_109, sX11_sheet_110, sX11_sheet_113, sX11_sheet_114, sX11_sheet_117, sX11_sheet_118, sX11_sheet_119, ↓hf103_7, ↓hf103_20, ↓hs113, Int.toNat_natCast, ↓if_pos, ↓if_neg, i32_s]
    · rw [r2, aup_s, aup_n (by omega)]
      by_cases q : j = k
      · subst q; rw [if_neg (show ¬ (j + 1 ≤ j ∧ j < 176) by omega), if_pos (show j ≤ j ∧ j < 176 by omega), fup_s]
      · by_cases q2' : k ≤ j ∧ j < 176
        · rw [if_pos (by omega), if_pos q2']
        · rw [if_neg (by omega), if_neg q2', fup_n q]
/-- what the model says behind a sheet -/
theorem sh_said {R S S' : Nat → Int} (hr : shR R W 1) (hw : swo W 1) (hs : ∀ j, j < 176 → S j = if j < 145 then R j else 0) (h1 : ∀ j, (j < 10 ∨ 86 ≤ j) → S' j = S j) (h2 : S' 10 = 0) (h3 : ∀ i w, i < 5 → w < 7 → S' (11 + 7 * i + w) = if w < 3 then S (90 + 3 * i + w) else 0) (h4 : ∀ e, e < 4 → S' (46 + e) = S (105 + e)) (h5 : ∀ c, c < 36 → S' (50 + c) = S (109 + c)) : ∃ G, SR1 G W W nf nf nf 0 S' := by
  obtain ⟨a1, a2, a3, a4, a5, a6, a7⟩ := hr
  obtain ⟨w0, w2, wg, G, wk⟩ := hw.2.2 (by omega)
  have sR : ∀ j, j < 145 → S j = R j := fun j hj => by rw [hs j (by omega), if_pos hj]
  refine ⟨G, wk, wk, ?_, ⟨?_, ?_, fun e he => ?_, ?_, fun e he => ?_, fun c hc => ?_, fun g hg => ?_⟩, ⟨w2, fun e he => ?_, fun c hc => ?_, fun g hg => ?_⟩, rfl, fun _ _ => rfl, by omega, ?_, fun k hk => by omega, by omega⟩
  · rw [h1 0 (by omega), sR 0 (by omega), a1, if_neg (by omega)]
  · rw [h1 1 (by omega), sR 1 (by omega)]; exact a2
  · rw [h1 2 (by omega), sR 2 (by omega)]; exact a3
  · rw [h1 _ (by omega), sR _ (by omega)]; exact a5 e he
  · show S' (10 + 0) = _
    rw [h2, w2]
  · show S' (10 + (36 + e)) = _
    rw [show 10 + (36 + e) = 46 + e by omega, h4 e he, sR _ (by omega)]; exact a4 e he
  · show S' (10 + (40 + c)) = _
    rw [show 10 + (40 + c) = 50 + c by omega, h5 c hc, sR _ (by omega)]; exact a6 c hc
  · have k0 := h3 g 0 hg (by omega)
    have k1 := h3 g 1 hg (by omega)
    have k2 := h3 g 2 hg (by omega)
    have k3 := h3 g 3 hg (by omega)
    have k6 := h3 g 6 hg (by omega)
    simp only [Nat.add_zero, Nat.reduceLT, if_true, if_false, Nat.lt_irrefl] at k0 k1 k2 k3 k6
    rw [sR _ (by omega)] at k0 k1 k2
    have tg := a7 g hg
    have gg := wg g hg
    unfold sdg
    simp only [← Nat.add_assoc, Nat.reduceAdd]
    rw [show 12 + 7 * g = 11 + 7 * g + 1 by omega, show 13 + 7 * g = 11 + 7 * g + 2 by omega, show 14 + 7 * g = 11 + 7 * g + 3 by omega, show 17 + 7 * g = 11 + 7 * g + 6 by omega, k0, k1, k2, k3, k6, gg.1, gg.2.2.1]
    rw [show 90 + 3 * g + 1 = 91 + 3 * g by omega, show 90 + 3 * g + 2 = 92 + 3 * g by omega]
    exact ⟨tg.2.1, tg.2.2, rfl, fun q => by omega, rfl, fun _ => tg.1⟩
  · rw [h1 _ (by omega), sR _ (by omega)]; exact a4 e he
  · rw [h1 _ (by omega), sR _ (by omega)]; exact a6 c hc
  · have tg := a7 g hg
    have gg := wg g hg
    rw [h1 _ (by omega), h1 _ (by omega), h1 _ (by omega), sR _ (by omega), sR _ (by omega), sR _ (by omega)]
    exact ⟨tg.1, tg.2.1, tg.2.2, gg⟩
  · rw [h1 175 (by omega), hs 175 (by omega), if_neg (by omega)]
theorem k_sheet (h : inv A F E) : prs mX10_sheet mX11_sheet [] A F E := by
  have sr := E_sread h
  obtain ⟨hT, hR, hW, hS, hH, hI⟩ := id h
  obtain ⟨T1, T2, T3, T4, T5, T6⟩ := id hT
  have X0 : t4k (F 2 1) (0, F 2 3, F 2 4, F 2 5) := ⟨⟨T5.1, by show (0 : Int) ≤ 0; omega⟩, T1.1, T6⟩
  have st := srd_t T3 T1.2 41 0 wz (0, F 2 3, F 2 4, F 2 5) (A 5) X0 T5.2
  have sc := srd_cn T3 T1.2 41 0 wz (0, F 2 3, F 2 4, F 2 5) (A 5) X0 ⟨wz_cn, fun _ => rfl, fun q => absurd rfl q⟩ (by omega)
  -- the model's begin
  have tm : ∀ A1 F1, A1 104 = A 104 → F1 103 1 = F 103 1 → TM A1 F1 (A 3) (F 2 1) := fun A1 F1 e1 e2 => ⟨by rw [e2]; exact T2, T1, T3, fun j hj => by rw [e1]; exact T4 j hj⟩
  have mr := fun A1 F1 e1 e2 e3 e4 => m_readsAll_s (E := E) (nf := A 5) (s := F 2 3) (kd := F 2 4) (va := F 2 5) (tm A1 F1 e1 e2) e3 e4 T5 T6
  have fnn : 0 ≤ (srd (A 3) cCl 21 (F 2 1) 41 0 wz (0, F 2 3, F 2 4, F 2 5) (A 5)).1 ∧ (srd (A 3) cCl 21 (F 2 1) 41 0 wz (0, F 2 3, F 2 4, F 2 5) (A 5)).1 ≤ 4000 := srd_f T3 T1.2 41 0 wz (0, F 2 3, F 2 4, F 2 5) (A 5) X0 T5.2
  generalize srd (A 3) cCl 21 (F 2 1) 41 0 wz (0, F 2 3, F 2 4, F 2 5) (A 5) = S at *
  generalize hA1 : aup (aup A 15 S.2.1) 5 S.2.2.2 = A1 at *
  generalize hF1 : aup (aup F 14 (fup (F 14) 1 (-1))) 2 (fup (fup (fup (fup (fup (F 2) 1 (F 2 1)) 2 S.2.2.1.1) 3 S.2.2.1.2.1) 4 S.2.2.1.2.2.1) 5 S.2.2.1.2.2.2) = F1 at *
  have cu := h_cut (A := A1) (F := F1) (E := E) (v := 0)
  generalize hF2 : aup F1 2 (fup (F1 2) 1 0) = F2 at *
  have a15 : A1 15 = S.2.1 := by rw [← hA1, aup_n (by omega), aup_s]
  have kA1 : ∀ j, j ≠ 5 → j ≠ 15 → A1 j = A j := fun j a c => by rw [← hA1, aup_n a, aup_n c]
  have kF2 : ∀ j, j ≠ 2 → j ≠ 14 → F2 j = F j := fun j a c => by rw [← hF2, aup_n a, ← hF1, aup_n a, aup_n c]
  have f21 : F2 2 1 = 0 := by rw [← hF2, aup_s, fup_s]
  have f23 : F2 2 3 = S.2.2.1.2.1 := by rw [← hF2, aup_s, fup_n (by omega), ← hF1, aup_s]; simp (disch := omega) only [fup_n, fup_s]
  have f25 : F2 2 5 = S.2.2.1.2.2.2 := by rw [← hF2, aup_s, fup_n (by omega), ← hF1, aup_s, fup_s]
  obtain ⟨⟨y1, y2⟩, y3, y4, y5⟩ := st.1
  have y6 := st.2
  by_cases z : S.1 = 0
  · -- a good sheet
    have c1 := h_copy (A := A1) (F := F2) (E := E) wad_10 wad_14 (by show cn 82 (A1 11); rw [kA1 11 (by omega) (by omega)]; exact hW.1 10 wad_10) (by show cn 82 (A1 15); rw [a15]; exact sc)
    simp only [Nat.reduceAdd] at c1
    rw [a15] at c1
    generalize hF3 : aup F2 10 (fup (F2 10) 1 (-1)) = F3 at *
    have c2 := h_copy (A := aup A1 11 S.2.1) (F := F3) (E := E) wad_12 wad_14 (by show cn 82 (aup A1 11 S.2.1 13); rw [aup_n (by omega), kA1 13 (by omega) (by omega)]; exact hW.1 12 wad_12) (by show cn 82 (aup A1 11 S.2.1 15); rw [aup_n (by omega), a15]; exact sc)
    simp only [Nat.reduceAdd] at c2
    rw [aup_n (show (15 : Nat) ≠ 11 by omega), a15] at c2
    generalize hF4 : aup F3 12 (fup (F3 12) 1 (-1)) = F4 at *
    generalize hA2 : aup (aup A1 11 S.2.1) 13 S.2.1 = A2 at *
    have c3 := h_nclear (A := A2) (F := F4) (E := E)
    generalize hF5 : aup F4 16 (fup (F4 16) 3 0) = F5 at *
    have c4 := h_hclear (A := A2) (F := F5) (E := E)
    generalize hF6 : aup F5 20 (fup (F5 20) 2 0) = F6 at *
    have c5 := E_goers (A := A2) (F := F6) (E := E)
    have a13 : A2 13 = S.2.1 := by rw [← hA2, aup_s]
    have a11 : A2 11 = S.2.1 := by rw [← hA2, aup_n (by omega), aup_s]
    have a215 : A2 15 = S.2.1 := by rw [← hA2, aup_n (by omega), aup_n (by omega), a15]
    rw [a13] at c5
    have kA2 : ∀ j, j ≠ 5 → j ≠ 15 → j ≠ 11 → j ≠ 13 → A2 j = A j := fun j a c d e => by rw [← hA2, aup_n e, aup_n d, kA1 j a c]
    have kF6 : ∀ j, j ≠ 2 → j ≠ 14 → j ≠ 10 → j ≠ 12 → j ≠ 16 → j ≠ 20 → F6 j = F j := fun j a c d e f g => by rw [← hF6, aup_n g, ← hF5, aup_n f, ← hF4, aup_n e, ← hF3, aup_n d, kF2 j a c]
    have k62 : F6 2 = F2 2 := by rw [← hF6, aup_n (by omega), ← hF5, aup_n (by omega), ← hF4, aup_n (by omega), ← hF3, aup_n (by omega)]
    have k616 : F6 16 3 = 0 := by rw [← hF6, aup_n (by omega), ← hF5, aup_s, fup_s]
    have k620 : F6 20 = fup (F 20) 2 0 := by rw [← hF6, aup_s, ← hF5, aup_n (by omega), ← hF4, aup_n (by omega), ← hF3, aup_n (by omega), kF2 20 (by omega) (by omega)]
    obtain ⟨R0, r1, r2⟩ := m_s0_l (E := E) 145 0 A2 (fF F6 11 6) (by omega)
    have r1' : rn mX11_sheet 8 [vr 103, vi 0] [] (HP A2 (fF F6 11 6) E) = _ := r1
    generalize hRR : fup (fup (fup (fup R0 105 0) 106 1) 107 2) 108 3 = RR
    have shr : shR RR wz 0 := by
      rw [← hRR]
      refine ⟨?_, ?_, ?_, fun e he => ?_, fun e he => ?_, fun e he => ?_, fun g hg => ⟨?_, ?_, ?_⟩⟩
      · rw [if_pos rfl]; simp (disch := omega) only [fup_n]; rw [r2, if_pos (by omega)]
      · simp (disch := omega) only [fup_n]; rw [r2, if_pos (by omega)]; rfl
      · simp (disch := omega) only [fup_n]; rw [r2, if_pos (by omega)]; rfl
      · have : e = 0 ∨ e = 1 ∨ e = 2 ∨ e = 3 := by omega
        rcases this with rfl | rfl | rfl | rfl <;> simp (disch := omega) only [fup_n, fup_s] <;> rfl
      · simp (disch := omega) only [fup_n]; rw [r2, if_pos (by omega)]; unfold wz; rw [if_neg (by omega)]
      · simp (disch := omega) only [fup_n]; rw [r2, if_pos (by omega)]; unfold wz; rw [if_neg (by omega)]
      · simp (disch := omega) only [fup_n]; rw [r2, if_pos (by omega)]; unfold wz; rw [if_neg (by omega)]
      · simp (disch := omega) only [fup_n]; rw [r2, if_pos (by omega)]; unfold wz; rw [if_neg (by omega)]
      · simp (disch := omega) only [fup_n]; rw [r2, if_pos (by omega)]; unfold wz; rw [if_neg (by omega)]
    obtain ⟨A3, F7, m1, m2, m3, m4, m5, m6, m7⟩ := mr (aup A2 109 RR) (fF F6 11 6) (by rw [aup_n (by omega), kA2 104 (by omega) (by omega) (by omega) (by omega)]) (by rw [fF_n (by omega), kF6 103 (by omega) (by omega) (by omega) (by omega) (by omega) (by omega)]) fF_s (by rw [aup_s]; exact shr)
    rw [if_pos z] at m1
    obtain ⟨m8, m9⟩ := m7 z
    obtain ⟨S2, s1, s2⟩ := m_sa_l (E := E) 176 0 A3 F7 (by omega)
    have s1' : rn mX11_sheet 68 [vr 103, vi 0] [] (HP A3 F7 E) = _ := s1
    obtain ⟨S3, b1, b2, b3, b4, b5, b6⟩ := m_begins (E := E) (A := aup A3 113 S2) (F := F7)
    rw [aup_aup] at b1
    rw [aup_s] at b2 b4 b5 b6
    obtain ⟨G, sr1⟩ := sh_said (nf := A2 17) m8 m9 (fun j hj => by rw [s2, if_pos (by omega)]) b2 b3 b4 b5 b6
    have g2 : S3 2 = S.2.1 1 := sd_1 sr1.2.2.2.1
    have kA3 : ∀ j, j ≠ 5 → j ≠ 15 → j ≠ 11 → j ≠ 13 → j ≠ 106 → j ≠ 109 → A3 j = A j := fun j a c d e f g => by rw [m2 j f g, aup_n g, kA2 j a c d e]
    have kF7 : ∀ j, j ≠ 2 → j ≠ 14 → j ≠ 10 → j ≠ 12 → j ≠ 16 → j ≠ 20 → j ≠ 103 → F7 j = F j := fun j a c d e f g i => by rw [m3 j i, fF_o i, kF6 j a c d e f g]
    have kM7 : ∀ k, k ≠ 1 → k ≠ 8 → k ≠ 9 → k ≠ 10 → k ≠ 11 → k ≠ 12 → k ≠ 14 → F7 103 k = F 103 k := fun k a c d e f g i => by rw [m4 k a c d e g i, fF_n f, kF6 103 (by omega) (by omega) (by omega) (by omega) (by omega) (by omega)]
    refine ⟨S.2.1 1, A2, F6, E, aup A3 113 S3, fF F7 24 0, E, ?_, ?_, ⟨?_, ?_, ?_, ?_, ?_, ?_⟩, rfl⟩
    · rw [z] at sr
      simp (disch := omega) only [eX10_sheet, sX10_sheet_0, sX10_sheet_1, sX10_sheet_4, sX10_sheet_5, sX10_sheet_8, sX10_sheet_9, sX10_sheet_12, sX10_sheet_15, sX10_sheet_16, sX10_sheet_17, sX10_sheet_20, sX10_sheet_21, sX10_sheet_24, sX10_sheet_25, sX10_sheet_28, sX10_sheet_30, sX10_sheet_31, sX10_sheet_32, sX10_sheet_33, sX10_sheet_34, sX10_sheet_37, sX10_sheet_38, sX10_sheet_41, sX10_sheet_44, sX10_sheet_45, sX10_sheet_48, sX10_sheet_49, sX10_sheet_52, sX10_sheet_55, sX10_sheet_56, sX10_sheet_59, sX10_sheet_62, sX10_sheet_63, sX10_sheet_66, sX10_sheet_69, sX10_sheet_70, sX10_sheet_73, ↓hk1, ↓hk2, ↓hk4, ↓hk10, ↓hk12, ↓hk16, ↓hk20, ↓hf1_0, ↓hf1_1, ↓hf1_7, ↓hf1_8, ↓hf1_9, ↓hf1_10, ↓hf1_11, ↓bndi_at sr, ↓bndv_at cu, ↓bndv_at c1, ↓bndv_at c2, ↓bndv_at c3, ↓bndv_at c4, ↓bndi_at c5, ↓if_pos, ↓if_neg]
    · have pt : ∀ pc L st, rn mX11_sheet pc L st (HP A2 (aup F6 103 (fup (F6 103) 11 6)) E) = rn mX11_sheet pc L st (HP A2 (fF F6 11 6) E) := fun _ _ _ => rfl
      have pt2 : ∀ pc L st, rn mX11_sheet pc L st (HP (aup A3 113 S3) (aup F7 103 (fup (F7 103) 24 0)) E) = rn mX11_sheet pc L st (HP (aup A3 113 S3) (fF F7 24 0) E) := fun _ _ _ => rfl
      simp (disch := omega) only [eX11_sheet, sX11_sheet_0, sX11_sheet_1, sX11_sheet_3, sX11_sheet_6, sX11_sheet_7, sX11_sheet_9, sX11_sheet_12, sX11_sheet_15, sX11_sheet_16, sX11_sheet_19, sX11_sheet_20, sX11_sheet_21, sX11_sheet_22, sX11_sheet_25, sX11_sheet_29, sX11_sheet_31, sX11_sheet_32, sX11_sheet_35, sX11_sheet_36, sX11_sheet_39, sX11_sheet_41, sX11_sheet_42, sX11_sheet_43, sX11_sheet_44, sX11_sheet_45, sX11_sheet_48, sX11_sheet_51, sX11_sheet_52, sX11_sheet_55, sX11_sheet_58, sX11_sheet_60, sX11_sheet_61, sX11_sheet_64, sX11_sheet_65, sX11_sheet_66, sX11_sheet_67, sX11_sheet_69, sX11_sheet_72, sX11_sheet_75, sX11_sheet_76, sX11_sheet_79, sX11_sheet_80, sX11_sheet_81, sX11_sheet_84, sX11_sheet_87, sX11_sheet_88, sX11_sheet_91, sX11_sheet_92, sX11_sheet_93, sX11_sheet_96, sX11_sheet_97, sX11_sheet_98, sX11_sheet_101, sX11_sheet_104, sX11_sheet_105, sX11_sheet_108, sX11_sheet_109, sX11_sheet_110, sX11_sheet_113, sX11_sheet_114, sX11_sheet_117, sX11_sheet_118, sX11_sheet_119, ↓hp103_11]
      rw [pt, r1']
      simp (disch := omega) only [eX11_sheet, sX11_sheet_0, sX11_sheet_1, sX11_sheet_3, sX11_sheet_6, sX11_sheet_7, sX11_sheet_9, sX11_sheet_12, sX11_sheet_15, sX11_sheet_16, sX11_sheet_19, sX11_sheet_20, sX11_sheet_21, sX11_sheet_22, sX11_sheet_25, sX11_sheet_28, sX11_sheet_29, sX11_sheet_30, sX11_sheet_31, sX11_sheet_32, sX11_sheet_35, sX11_sheet_36, sX11_sheet_39, sX11_sheet_41, sX11_sheet_42, sX11_sheet_43, sX11_sheet_44, sX11_sheet_45, sX11_sheet_48, sX11_sheet_52, sX11_sheet_55, sX11_sheet_58, sX11_sheet_60, sX11_sheet_61, sX11_sheet_64, sX11_sheet_65, sX11_sheet_66, sX11_sheet_67, sX11_sheet_69, sX11_sheet_72, sX11_sheet_75, sX11_sheet_76, sX11_sheet_79, sX11_sheet_80, sX11_sheet_81, sX11_sheet_84, sX11_sheet_87, sX11_sheet_88, sX11_sheet_91, sX11_sheet_92, sX11_sheet_93, sX11_sheet_96, sX11_sheet_97, sX11_sheet_98, sX11_sheet_101, sX11_sheet_104, sX11_sheet_105, sX11_sheet_108, sX11_sheet_109, sX11_sheet_110, sX11_sheet_113, sX11_sheet_114, sX11_sheet_117, sX11_sheet_118, sX11_sheet_119, ↓hf103_7, ↓hs109, aup_s, aup_aup, Int.reduceToNat, Int.reduceAdd, i32_of, ↓if_pos, ↓if_neg, ↓reduceIte]
      rw [hRR]
      simp (disch := omega) only [eX11_sheet, sX11_sheet_0, sX11_sheet_1, sX11_sheet_3, sX11_sheet_6, sX11_sheet_7, sX11_sheet_9, sX11_sheet_12, sX11_sheet_15, sX11_sheet_16, sX11_sheet_19, sX11_sheet_20, sX11_sheet_21, sX11_sheet_22, sX11_sheet_25, sX11_sheet_28, sX11_sheet_29, sX11_sheet_31, sX11_sheet_32, sX11_sheet_35, sX11_sheet_36, sX11_sheet_39, sX11_sheet_41, sX11_sheet_42, sX11_sheet_43, sX11_sheet_44, sX11_sheet_45, sX11_sheet_48, sX11_sheet_51, sX11_sheet_52, sX11_sheet_55, sX11_sheet_58, sX11_sheet_60, sX11_sheet_61, sX11_sheet_64, sX11_sheet_65, sX11_sheet_66, sX11_sheet_67, sX11_sheet_69, sX11_sheet_72, sX11_sheet_75, sX11_sheet_76, sX11_sheet_79, sX11_sheet_80, sX11_sheet_81, sX11_sheet_84, sX11_sheet_87, sX11_sheet_88, sX11_sheet_91, sX11_sheet_92, sX11_sheet_93, sX11_sheet_96, sX11_sheet_97, sX11_sheet_98, sX11_sheet_101, sX11_sheet_105, sX11_sheet_108, sX11_sheet_109, sX11_sheet_110, sX11_sheet_113, sX11_sheet_114, sX11_sheet_117, sX11_sheet_118, sX11_sheet_119, ↓hk103, ↓bndi_at m1, ↓if_pos, ↓if_neg]
      rw [s1']
      simp (disch := omega) only [eX11_sheet, sX11_sheet_0, sX11_sheet_1, sX11_sheet_3, sX11_sheet_6, sX11_sheet_7, sX11_sheet_9, sX11_sheet_12, sX11_sheet_15, sX11_sheet_16, sX11_sheet_19, sX11_sheet_20, sX11_sheet_21, sX11_sheet_22, sX11_sheet_25, sX11_sheet_28, sX11_sheet_29, sX11_sheet_31, sX11_sheet_32, sX11_sheet_35, sX11_sheet_36, sX11_sheet_39, sX11_sheet_41, sX11_sheet_42, sX11_sheet_43, sX11_sheet_44, sX11_sheet_45, sX11_sheet_48, sX11_sheet_51, sX11_sheet_52, sX11_sheet_55, sX11_sheet_58, sX11_sheet_60, sX11_sheet_61, sX11_sheet_64, sX11_sheet_65, sX11_sheet_66, sX11_sheet_67, sX11_sheet_69, sX11_sheet_72, sX11_sheet_75, sX11_sheet_76, sX11_sheet_79, sX11_sheet_80, sX11_sheet_81, sX11_sheet_84, sX11_sheet_87, sX11_sheet_88, sX11_sheet_91, sX11_sheet_92, sX11_sheet_93, sX11_sheet_96, sX11_sheet_97, sX11_sheet_98, sX11_sheet_101, sX11_sheet_104, sX11_sheet_105, sX11_sheet_108, sX11_sheet_109, sX11_sheet_110, sX11_sheet_114, sX11_sheet_117, sX11_sheet_118, sX11_sheet_119, ↓hk103, ↓bndv_at b1, ↓hp103_24]
      rw [pt2]
      simp (disch := omega) only [eX11_sheet, sX11_sheet_0, sX11_sheet_1, sX11_sheet_3, sX11_sheet_6, sX11_sheet_7, sX11_sheet_9, sX11_sheet_12, sX11_sheet_15, sX11_sheet_16, sX11_sheet_19, sX11_sheet_20, sX11_sheet_21, sX11_sheet_22, sX11_sheet_25, sX11_sheet_28, sX11_sheet_29, sX11_sheet_31, sX11_sheet_32, sX11_sheet_35, sX11_sheet_36, sX11_sheet_39, sX11_sheet_41, sX11_sheet_42, sX11_sheet_43, sX11_sheet_44, sX11_sheet_45, sX11_sheet_48, sX11_sheet_51, sX11_sheet_52, sX11_sheet_55, sX11_sheet_58, sX11_sheet_60, sX11_sheet_61, sX11_sheet_64, sX11_sheet_65, sX11_sheet_66, sX11_sheet_67, sX11_sheet_69, sX11_sheet_72, sX11_sheet_75, sX11_sheet_76, sX11_sheet_79, sX11_sheet_80, sX11_sheet_81, sX11_sheet_84, sX11_sheet_87, sX11_sheet_88, sX11_sheet_91, sX11_sheet_92, sX11_sheet_93, sX11_sheet_96, sX11_sheet_97, sX11_sheet_98, sX11_sheet_101, sX11_sheet_104, sX11_sheet_105, sX11_sheet_108, sX11_sheet_109, sX11_sheet_110, sX11_sheet_113, sX11_sheet_114, sX11_sheet_117, sX11_sheet_118, sX11_sheet_119, ↓hf103_20, ↓hg113, aup_s, Int.reduceToNat, g2]
    · refine ⟨?_, ?_, ?_, ?_, ?_, ?_⟩
      · rw [fF_o (by omega), m3 2 (by omega), fF_o (by omega), k62, f21]; omega
      · rw [fF_n (by omega), m5, fF_o (by omega), m3 2 (by omega), fF_o (by omega), k62, f21]
      · rw [aup_n (by omega), kA3 3 (by omega) (by omega) (by omega) (by omega) (by omega) (by omega)]; exact T3
      · intro j hj; rw [fF_o (by omega), m3 2 (by omega), fF_o (by omega), k62, f21] at hj; omega
      · rw [fF_o (by omega), m3 2 (by omega), fF_o (by omega), k62, f23]; exact ⟨y1, y6⟩
      · rw [fF_o (by omega), m3 2 (by omega), fF_o (by omega), k62, f25]; exact ⟨y4, y5⟩
    · obtain ⟨q1, q2', q3, q4', q5, q6, q7, q8, q9⟩ := hR
      have e1 : fF F7 24 0 1 = F 1 := by rw [fF_o (by omega), kF7 1 (by omega) (by omega) (by omega) (by omega) (by omega) (by omega) (by omega)]
      have em : ∀ k, k = 2 ∨ k = 21 ∨ k = 22 → fF F7 24 0 103 k = F 103 k := fun k hk => by rw [fF_n (by omega), kM7 k (by omega) (by omega) (by omega) (by omega) (by omega) (by omega) (by omega)]
      refine ⟨q1, q2', by rw [e1]; exact q3, by rw [em 2 (by omega)]; exact q4', by rw [e1]; exact q5, by rw [em 21 (by omega), e1]; exact q6, by rw [em 22 (by omega), e1]; exact q7, by rw [e1]; exact q8, fun i hi => RU_f (q9 i hi) ?_ ?_ ?_ ?_⟩
      · rw [aup_n (by omega), kA3 _ (by omega) (by omega) (by omega) (by omega) (by omega) (by omega)]
      · rw [aup_n (by omega), kA3 _ (by omega) (by omega) (by omega) (by omega) (by omega) (by omega)]
      · rw [aup_n (by omega), kA3 _ (by omega) (by omega) (by omega) (by omega) (by omega) (by omega)]
      · rw [aup_n (by omega), kA3 _ (by omega) (by omega) (by omega) (by omega) (by omega) (by omega)]
    · have a3 : ∀ j, j < 106 → A3 j = A2 j := fun j hj => by rw [m2 j (by omega) (by omega), aup_n (by omega)]
      refine ⟨fun a ha => ?_, fun j hj => ?_⟩
      · have wb := wad_b ha
        rw [aup_n (by omega), a3 _ (by omega)]
        by_cases c1 : a = 10
        · subst c1; show cn 82 (A2 11); rw [a11]; exact sc
        · by_cases c2 : a = 12
          · subst c2; show cn 82 (A2 13); rw [a13]; exact sc
          · by_cases c3 : a = 14
            · subst c3; show cn 82 (A2 15); rw [a215]; exact sc
            · rw [kA2 (a + 1) (by unfold wad at ha; omega) (by omega) (by omega) (by omega)]; exact hW.1 a ha
      · unfold nad at hj
        rw [aup_n (by omega), a3 _ (by omega), kA2 j (by omega) (by omega) (by omega) (by omega)]
        exact hW.2 j hj
    · have a3 : ∀ j, j < 106 → A3 j = A2 j := fun j hj => by rw [m2 j (by omega) (by omega), aup_n (by omega)]
      refine Or.inr ⟨G, ?_⟩
      rw [aup_s, aup_n (by omega), aup_n (by omega), aup_n (by omega), aup_n (by omega), aup_n (by omega), a3 13 (by omega), a3 11 (by omega), a13, a11, fF_o (by omega), m3 16 (by omega), fF_o (by omega), k616]
      obtain ⟨v1, v2, v3, v4, v5, v6, v7, v8, v9, v10, v11⟩ := sr1
      exact ⟨v1, v2, v3, v4, v5, v6, v7, v8, v9, fun k hk => by omega, v11⟩
    · have f20 : fF F7 24 0 20 = fup (F 20) 2 0 := by rw [fF_o (by omega), m3 20 (by omega), fF_o (by omega), k620]
      refine ⟨by rw [f20, fup_n (by omega)]; exact hH.1, by rw [f20, fup_s]; omega, by rw [f20, fup_s, fF_s], fun u hu => ?_⟩
      rw [f20, fup_s] at hu; omega
    · refine iI_f hI (fun j hj => ?_) (fun j j1 j2 => ?_)
      · rw [aup_n (by omega), kA3 j (by omega) (by omega) (by omega) (by omega) (by omega) (by omega)]
      · rw [fF_o (by omega), kF7 j (by omega) (by omega) (by omega) (by omega) (by omega) (by omega) (by omega)]
  · -- a bad one
    obtain ⟨R0, r1, r2⟩ := m_s0_l (E := E) 145 0 A1 (fF F2 11 6) (by omega)
    have r1' : rn mX11_sheet 8 [vr 103, vi 0] [] (HP A1 (fF F2 11 6) E) = _ := r1
    generalize hRR : fup (fup (fup (fup R0 105 0) 106 1) 107 2) 108 3 = RR
    have shr : shR RR wz 0 := by
      rw [← hRR]
      refine ⟨?_, ?_, ?_, fun e he => ?_, fun e he => ?_, fun e he => ?_, fun g hg => ⟨?_, ?_, ?_⟩⟩
      · rw [if_pos rfl]; simp (disch := omega) only [fup_n]; rw [r2, if_pos (by omega)]
      · simp (disch := omega) only [fup_n]; rw [r2, if_pos (by omega)]; rfl
      · simp (disch := omega) only [fup_n]; rw [r2, if_pos (by omega)]; rfl
      · have : e = 0 ∨ e = 1 ∨ e = 2 ∨ e = 3 := by omega
        rcases this with rfl | rfl | rfl | rfl <;> simp (disch := omega) only [fup_n, fup_s] <;> rfl
      · simp (disch := omega) only [fup_n]; rw [r2, if_pos (by omega)]; unfold wz; rw [if_neg (by omega)]
      · simp (disch := omega) only [fup_n]; rw [r2, if_pos (by omega)]; unfold wz; rw [if_neg (by omega)]
      · simp (disch := omega) only [fup_n]; rw [r2, if_pos (by omega)]; unfold wz; rw [if_neg (by omega)]
      · simp (disch := omega) only [fup_n]; rw [r2, if_pos (by omega)]; unfold wz; rw [if_neg (by omega)]
      · simp (disch := omega) only [fup_n]; rw [r2, if_pos (by omega)]; unfold wz; rw [if_neg (by omega)]
    obtain ⟨A3, F7, m1, m2, m3, m4, m5, m6, m7⟩ := mr (aup A1 109 RR) (fF F2 11 6) (by rw [aup_n (by omega), kA1 104 (by omega) (by omega)]) (by rw [fF_n (by omega), kF2 103 (by omega) (by omega)]) fF_s (by rw [aup_s]; exact shr)
    rw [if_neg z] at m1
    have kA3 : ∀ j, j ≠ 5 → j ≠ 15 → j ≠ 106 → j ≠ 109 → A3 j = A j := fun j a c f g => by rw [m2 j f g, aup_n g, kA1 j a c]
    have kF7 : ∀ j, j ≠ 2 → j ≠ 14 → j ≠ 103 → F7 j = F j := fun j a c i => by rw [m3 j i, fF_o i, kF2 j a c]
    have kM7 : ∀ k, k ≠ 1 → k ≠ 8 → k ≠ 9 → k ≠ 10 → k ≠ 11 → k ≠ 12 → k ≠ 14 → F7 103 k = F 103 k := fun k a c d e f g i => by rw [m4 k a c d e g i, fF_n f, kF2 103 (by omega) (by omega)]
    refine ⟨-2 - S.1, A1, F2, E, A3, F7, E, ?_, ?_, ⟨?_, ?_, ?_, ?_, ?_, ?_⟩, rfl⟩
    · simp (disch := omega) only [eX10_sheet, sX10_sheet_0, sX10_sheet_1, sX10_sheet_4, sX10_sheet_5, sX10_sheet_8, sX10_sheet_9, sX10_sheet_12, sX10_sheet_15, sX10_sheet_16, sX10_sheet_17, sX10_sheet_20, sX10_sheet_21, sX10_sheet_24, sX10_sheet_25, sX10_sheet_28, sX10_sheet_30, sX10_sheet_31, sX10_sheet_32, sX10_sheet_33, sX10_sheet_34, sX10_sheet_37, sX10_sheet_38, sX10_sheet_41, sX10_sheet_44, sX10_sheet_45, sX10_sheet_48, sX10_sheet_49, sX10_sheet_52, sX10_sheet_55, sX10_sheet_56, sX10_sheet_59, sX10_sheet_62, sX10_sheet_63, sX10_sheet_66, sX10_sheet_69, sX10_sheet_70, sX10_sheet_73, ↓hk1, ↓hk2, ↓hk4, ↓hf1_0, ↓hf1_1, ↓hf1_9, ↓bndi_at sr, ↓bndv_at cu, i32_of, ↓if_pos, ↓if_neg]
    · have pt : ∀ pc L st, rn mX11_sheet pc L st (HP A1 (aup F2 103 (fup (F2 103) 11 6)) E) = rn mX11_sheet pc L st (HP A1 (fF F2 11 6) E) := fun _ _ _ => rfl
      simp (disch := omega) only [eX11_sheet, sX11_sheet_0, sX11_sheet_1, sX11_sheet_3, sX11_sheet_6, sX11_sheet_7, sX11_sheet_9, sX11_sheet_12, sX11_sheet_15, sX11_sheet_16, sX11_sheet_19, sX11_sheet_20, sX11_sheet_21, sX11_sheet_22, sX11_sheet_25, sX11_sheet_29, sX11_sheet_31, sX11_sheet_32, sX11_sheet_35, sX11_sheet_36, sX11_sheet_39, sX11_sheet_41, sX11_sheet_42, sX11_sheet_43, sX11_sheet_44, sX11_sheet_45, sX11_sheet_48, sX11_sheet_51, sX11_sheet_52, sX11_sheet_55, sX11_sheet_58, sX11_sheet_60, sX11_sheet_61, sX11_sheet_64, sX11_sheet_65, sX11_sheet_66, sX11_sheet_67, sX11_sheet_69, sX11_sheet_72, sX11_sheet_75, sX11_sheet_76, sX11_sheet_79, sX11_sheet_80, sX11_sheet_81, sX11_sheet_84, sX11_sheet_87, sX11_sheet_88, sX11_sheet_91, sX11_sheet_92, sX11_sheet_93, sX11_sheet_96, sX11_sheet_97, sX11_sheet_98, sX11_sheet_101, sX11_sheet_104, sX11_sheet_105, sX11_sheet_108, sX11_sheet_109, sX11_sheet_110, sX11_sheet_113, sX11_sheet_114, sX11_sheet_117, sX11_sheet_118, sX11_sheet_119, ↓hp103_11]
      rw [pt, r1']
      simp (disch := omega) only [eX11_sheet, sX11_sheet_0, sX11_sheet_1, sX11_sheet_3, sX11_sheet_6, sX11_sheet_7, sX11_sheet_9, sX11_sheet_12, sX11_sheet_15, sX11_sheet_16, sX11_sheet_19, sX11_sheet_20, sX11_sheet_21, sX11_sheet_22, sX11_sheet_25, sX11_sheet_28, sX11_sheet_29, sX11_sheet_30, sX11_sheet_31, sX11_sheet_32, sX11_sheet_35, sX11_sheet_36, sX11_sheet_39, sX11_sheet_41, sX11_sheet_42, sX11_sheet_43, sX11_sheet_44, sX11_sheet_45, sX11_sheet_48, sX11_sheet_52, sX11_sheet_55, sX11_sheet_58, sX11_sheet_60, sX11_sheet_61, sX11_sheet_64, sX11_sheet_65, sX11_sheet_66, sX11_sheet_67, sX11_sheet_69, sX11_sheet_72, sX11_sheet_75, sX11_sheet_76, sX11_sheet_79, sX11_sheet_80, sX11_sheet_81, sX11_sheet_84, sX11_sheet_87, sX11_sheet_88, sX11_sheet_91, sX11_sheet_92, sX11_sheet_93, sX11_sheet_96, sX11_sheet_97, sX11_sheet_98, sX11_sheet_101, sX11_sheet_104, sX11_sheet_105, sX11_sheet_108, sX11_sheet_109, sX11_sheet_110, sX11_sheet_113, sX11_sheet_114, sX11_sheet_117, sX11_sheet_118, sX11_sheet_119, ↓hf103_7, ↓hs109, aup_s, aup_aup, Int.reduceToNat, Int.reduceAdd, i32_of, ↓if_pos, ↓if_neg, ↓reduceIte]
      rw [hRR]
      simp (disch := omega) only [eX11_sheet, sX11_sheet_0, sX11_sheet_1, sX11_sheet_3, sX11_sheet_6, sX11_sheet_7, sX11_sheet_9, sX11_sheet_12, sX11_sheet_15, sX11_sheet_16, sX11_sheet_19, sX11_sheet_20, sX11_sheet_21, sX11_sheet_22, sX11_sheet_25, sX11_sheet_28, sX11_sheet_29, sX11_sheet_31, sX11_sheet_32, sX11_sheet_35, sX11_sheet_36, sX11_sheet_39, sX11_sheet_41, sX11_sheet_42, sX11_sheet_43, sX11_sheet_44, sX11_sheet_45, sX11_sheet_48, sX11_sheet_51, sX11_sheet_52, sX11_sheet_55, sX11_sheet_58, sX11_sheet_60, sX11_sheet_61, sX11_sheet_64, sX11_sheet_65, sX11_sheet_66, sX11_sheet_67, sX11_sheet_69, sX11_sheet_72, sX11_sheet_75, sX11_sheet_76, sX11_sheet_79, sX11_sheet_80, sX11_sheet_81, sX11_sheet_84, sX11_sheet_87, sX11_sheet_88, sX11_sheet_91, sX11_sheet_92, sX11_sheet_93, sX11_sheet_96, sX11_sheet_97, sX11_sheet_98, sX11_sheet_101, sX11_sheet_105, sX11_sheet_108, sX11_sheet_109, sX11_sheet_110, sX11_sheet_113, sX11_sheet_114, sX11_sheet_117, sX11_sheet_118, sX11_sheet_119, ↓hk103, ↓hf103_9, ↓bndi_at m1, m6, i32_of, ↓if_pos, ↓if_neg]
    · refine ⟨?_, ?_, ?_, ?_, ?_, ?_⟩
      · rw [m3 2 (by omega), fF_o (by omega), f21]; omega
      · rw [m5, m3 2 (by omega), fF_o (by omega), f21]
      · rw [kA3 3 (by omega) (by omega) (by omega) (by omega)]; exact T3
      · intro j hj; rw [m3 2 (by omega), fF_o (by omega), f21] at hj; omega
      · rw [m3 2 (by omega), fF_o (by omega), f23]; exact ⟨y1, y6⟩
      · rw [m3 2 (by omega), fF_o (by omega), f25]; exact ⟨y4, y5⟩
    · obtain ⟨q1, q2', q3, q4', q5, q6, q7, q8, q9⟩ := hR
      have e1 : F7 1 = F 1 := kF7 1 (by omega) (by omega) (by omega)
      have em : ∀ k, k = 2 ∨ k = 21 ∨ k = 22 → F7 103 k = F 103 k := fun k hk => kM7 k (by omega) (by omega) (by omega) (by omega) (by omega) (by omega) (by omega)
      refine ⟨q1, q2', by rw [e1]; exact q3, by rw [em 2 (by omega)]; exact q4', by rw [e1]; exact q5, by rw [em 21 (by omega), e1]; exact q6, by rw [em 22 (by omega), e1]; exact q7, by rw [e1]; exact q8, fun i hi => RU_f (q9 i hi) ?_ ?_ ?_ ?_⟩
      · exact kA3 _ (by omega) (by omega) (by omega) (by omega)
      · exact kA3 _ (by omega) (by omega) (by omega) (by omega)
      · exact kA3 _ (by omega) (by omega) (by omega) (by omega)
      · exact kA3 _ (by omega) (by omega) (by omega) (by omega)
    · refine ⟨fun a ha => ?_, fun j hj => ?_⟩
      · have wb := wad_b ha
        by_cases c3 : a = 14
        · subst c3; show cn 82 (A3 15); rw [m2 15 (by omega) (by omega), aup_n (by omega), a15]; exact sc
        · rw [kA3 (a + 1) (by unfold wad at ha; omega) (by omega) (by omega) (by omega)]; exact hW.1 a ha
      · unfold nad at hj
        rw [kA3 j (by omega) (by omega) (by omega) (by omega)]
        exact hW.2 j hj
    · unfold iS
      rw [kA3 13 (by omega) (by omega) (by omega) (by omega), kA3 11 (by omega) (by omega) (by omega) (by omega), kA3 17 (by omega) (by omega) (by omega) (by omega), kA3 18 (by omega) (by omega) (by omega) (by omega), kA3 19 (by omega) (by omega) (by omega) (by omega), kA3 113 (by omega) (by omega) (by omega) (by omega), kF7 16 (by omega) (by omega) (by omega)]
      exact hS
    · exact iH_f hH (fun j hj => kA3 j (by omega) (by omega) (by omega) (by omega)) (kF7 20 (by omega) (by omega) (by omega)) (kM7 24 (by omega) (by omega) (by omega) (by omega) (by omega) (by omega) (by omega))
    · exact iI_f hI (fun j hj => kA3 j (by omega) (by omega) (by omega) (by omega)) (fun j j1 j2 => kF7 j (by omega) (by omega) (by omega))
end KS
