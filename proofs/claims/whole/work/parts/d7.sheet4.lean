/-! a sheet's clause in the model, whole; all clauses -/
section CH
variable {A F : Nat → Nat → Int} {E : zE} {b W nf : Nat → Int} {L n s : Int} {X : Int × Int × Int × Int}
theorem cls_b : -1 ≤ sfc (W 1) n s := sfc_b.1
theorem iw_s {w : Int} (tm : TM A F b L) (h8 : F 103 8 = s) (s0 : 0 ≤ s ∧ s ≤ L) (si : sk b L s = s) : cl mX11_isWord [vr 103, vl w] (HP A F E) = some (vi (if wdH b L s w then 1 else 0), HP A F E) := by
  have := m_isWord (E := E) (w := w) tm h8 s0.1 s0.2
  rw [si, fF_id h8] at this
  exact this
theorem b01 {x : Bool} : (if x then (1 : Int) else 0) = 0 ∨ (if x then (1 : Int) else 0) = 1 := by cases x <;> decide
/-- the clause's word by its number, in words -/
def cwd (b : Nat → Int) (L s : Int) : Int := if wdH b L s 495672714612 then 0 else if wdH b L s 1735353714 then 1 else if wdH b L s 1785686382 then 2 else if wdH b L s 495874698853 then 3 else -1
theorem m_sheetWord (tm : TM A F b L) (h8 : F 103 8 = s) (s0 : 0 ≤ s ∧ s ≤ L) (si : sk b L s = s) : cl mX11_isSheetWord [vr 103] (HP A F E) = some (vi (if cwd b L s = -1 then 0 else 1), HP A F E) := by
  have i0 := iw_s (E := E) (w := 495672714612) tm h8 s0 si
  have i1 := iw_s (E := E) (w := 1735353714) tm h8 s0 si
  have i2 := iw_s (E := E) (w := 1785686382) tm h8 s0 si
  have i3 := iw_s (E := E) (w := 495874698853) tm h8 s0 si
  unfold cwd
  by_cases w0 : wdH b L s 495672714612 = true
  · rw [if_pos w0] at i0 ⊢
    simp (disch := omega) only [eX11_isSheetWord, sX11_isSheetWord_0, sX11_isSheetWord_1, sX11_isSheetWord_4, sX11_isSheetWord_7, sX11_isSheetWord_10, sX11_isSheetWord_11, sX11_isSheetWord_14, sX11_isSheetWord_17, sX11_isSheetWord_20, sX11_isSheetWord_21, sX11_isSheetWord_24, sX11_isSheetWord_27, sX11_isSheetWord_30, sX11_isSheetWord_31, sX11_isSheetWord_34, sX11_isSheetWord_37, sX11_isSheetWord_40, sX11_isSheetWord_41, sX11_isSheetWord_44, sX11_isSheetWord_45, ↓hk103, ↓bndi_at i0, ↓if_pos, ↓if_neg, ↓reduceIte, or_true]
  · rw [if_neg w0] at i0 ⊢
    by_cases w1 : wdH b L s 1735353714 = true
    · rw [if_pos w1] at i1 ⊢
      simp (disch := omega) only [eX11_isSheetWord, sX11_isSheetWord_0, sX11_isSheetWord_1, sX11_isSheetWord_4, sX11_isSheetWord_7, sX11_isSheetWord_10, sX11_isSheetWord_11, sX11_isSheetWord_14, sX11_isSheetWord_17, sX11_isSheetWord_20, sX11_isSheetWord_21, sX11_isSheetWord_24, sX11_isSheetWord_27, sX11_isSheetWord_30, sX11_isSheetWord_31, sX11_isSheetWord_34, sX11_isSheetWord_37, sX11_isSheetWord_40, sX11_isSheetWord_41, sX11_isSheetWord_44, sX11_isSheetWord_45, ↓hk103, ↓bndi_at i0, ↓bndi_at i1, ↓if_pos, ↓if_neg, ↓reduceIte, or_true]
    · rw [if_neg w1] at i1 ⊢
      by_cases w2 : wdH b L s 1785686382 = true
      · rw [if_pos w2] at i2 ⊢
        simp (disch := omega) only [eX11_isSheetWord, sX11_isSheetWord_0, sX11_isSheetWord_1, sX11_isSheetWord_4, sX11_isSheetWord_7, sX11_isSheetWord_10, sX11_isSheetWord_11, sX11_isSheetWord_14, sX11_isSheetWord_17, sX11_isSheetWord_20, sX11_isSheetWord_21, sX11_isSheetWord_24, sX11_isSheetWord_27, sX11_isSheetWord_30, sX11_isSheetWord_31, sX11_isSheetWord_34, sX11_isSheetWord_37, sX11_isSheetWord_40, sX11_isSheetWord_41, sX11_isSheetWord_44, sX11_isSheetWord_45, ↓hk103, ↓bndi_at i0, ↓bndi_at i1, ↓bndi_at i2, ↓if_pos, ↓if_neg, ↓reduceIte, or_true]
      · rw [if_neg w2] at i2 ⊢
        by_cases w3 : wdH b L s 495874698853 = true
        · rw [if_pos w3] at i3 ⊢
          simp (disch := omega) only [eX11_isSheetWord, sX11_isSheetWord_0, sX11_isSheetWord_1, sX11_isSheetWord_4, sX11_isSheetWord_7, sX11_isSheetWord_10, sX11_isSheetWord_11, sX11_isSheetWord_14, sX11_isSheetWord_17, sX11_isSheetWord_20, sX11_isSheetWord_21, sX11_isSheetWord_24, sX11_isSheetWord_27, sX11_isSheetWord_30, sX11_isSheetWord_31, sX11_isSheetWord_34, sX11_isSheetWord_37, sX11_isSheetWord_40, sX11_isSheetWord_41, sX11_isSheetWord_44, sX11_isSheetWord_45, ↓hk103, ↓bndi_at i0, ↓bndi_at i1, ↓bndi_at i2, ↓bndi_at i3, ↓if_pos, ↓if_neg, ↓reduceIte, or_true]
        · rw [if_neg w3] at i3 ⊢
          simp (disch := omega) only [eX11_isSheetWord, sX11_isSheetWord_0, sX11_isSheetWord_1, sX11_isSheetWord_4, sX11_isSheetWord_7, sX11_isSheetWord_10, sX11_isSheetWord_11, sX11_isSheetWord_14, sX11_isSheetWord_17, sX11_isSheetWord_20, sX11_isSheetWord_21, sX11_isSheetWord_24, sX11_isSheetWord_27, sX11_isSheetWord_30, sX11_isSheetWord_31, sX11_isSheetWord_34, sX11_isSheetWord_37, sX11_isSheetWord_40, sX11_isSheetWord_41, sX11_isSheetWord_44, sX11_isSheetWord_45, ↓hk103, ↓bndi_at i0, ↓bndi_at i1, ↓bndi_at i2, ↓bndi_at i3, ↓if_pos, ↓if_neg, ↓reduceIte, true_or]
/-- a clause's line: what the numbers say, or that it is misplaced -/
theorem m_line (tm : TM A F b L) (h8 : F 103 8 = s) (h9 : F 103 9 = 0) (s0 : 0 ≤ s ∧ s ≤ L) (si : sk b L s = s) (hx : cwd b L s ≠ -1 → X.1 = wde b L s) (hv : -1 ≤ X.2.2.2 ∧ X.2.2.2 ≤ 99999) (hr : shR (A 109) W n) (hw : swo W n) (n0 : 0 ≤ n ∧ n < 40) (hc : cwd b L s ≠ -1) : (sfc (W 1) (cwd b L s) n = -1 ∧ cres mX11_sheetLineHere [vr 103, vi s] A F E b W L n (cwd b L s) (rnu b W L (cwd b L s) (smn (cwd b L s)) 0 X nf)) ∨ (sfc (W 1) (cwd b L s) n = 4 ∧ cl mX11_sheetLineHere [vr 103, vi s] (HP A F E) = some (vi 0, HP A (fF F 9 (1 + 8 * s + 4)) E)) := by
  have xe := hx hc
  have L4 := tm.2.1
  have i0 := iw_s (E := E) (w := 495672714612) tm h8 s0 si
  have i1 := iw_s (E := E) (w := 1735353714) tm h8 s0 si
  have i2 := iw_s (E := E) (w := 1785686382) tm h8 s0 si
  have fl := m_fails (A := A) (E := E) (k := 4) (at' := s) h9 (by omega) (by omega)
  have wk : (0 ≤ W 0 ∧ W 0 ≤ 6) ∧ 0 ≤ W 1 ∧ W 1 ≤ 5 := swo_k hw
  have r0 := hr.1
  unfold cwd at hc ⊢
  by_cases w0 : wdH b L s 495672714612 = true
  · rw [if_pos w0] at i0 ⊢
    by_cases z : n = 0
    · refine Or.inl ⟨?_, ?_⟩
      · unfold sfc; rw [if_neg (by omega), if_neg (by omega)]
      · obtain ⟨A', F', f1, f2, ⟨g1, g2, g3⟩ | ⟨g1, g2, g3⟩⟩ := c_sheet (E := E) (nf := nf) tm h8 h9 s0 xe hv hr z
        · refine ⟨A', F', f1, f2, Or.inl ⟨g1, ?_, g3⟩⟩
          simp (disch := omega) only [eX11_sheetLineHere, sX11_sheetLineHere_0, sX11_sheetLineHere_1, sX11_sheetLineHere_4, sX11_sheetLineHere_7, sX11_sheetLineHere_10, sX11_sheetLineHere_11, sX11_sheetLineHere_12, sX11_sheetLineHere_15, sX11_sheetLineHere_16, sX11_sheetLineHere_17, sX11_sheetLineHere_20, sX11_sheetLineHere_21, sX11_sheetLineHere_22, sX11_sheetLineHere_25, sX11_sheetLineHere_26, sX11_sheetLineHere_27, sX11_sheetLineHere_28, sX11_sheetLineHere_31, sX11_sheetLineHere_32, sX11_sheetLineHere_33, sX11_sheetLineHere_36, sX11_sheetLineHere_39, sX11_sheetLineHere_42, sX11_sheetLineHere_43, sX11_sheetLineHere_44, sX11_sheetLineHere_47, sX11_sheetLineHere_48, sX11_sheetLineHere_49, sX11_sheetLineHere_52, sX11_sheetLineHere_55, sX11_sheetLineHere_58, sX11_sheetLineHere_59, sX11_sheetLineHere_62, sX11_sheetLineHere_65, sX11_sheetLineHere_66, sX11_sheetLineHere_69, ↓hk103, ↓bndi_at i0, ↓bndi_at g2, ↓if_pos, ↓if_neg, ↓reduceIte, or_true]
        · refine ⟨A', F', f1, f2, Or.inr ⟨g1, ?_, g3⟩⟩
          simp (disch := omega) only [eX11_sheetLineHere, sX11_sheetLineHere_0, sX11_sheetLineHere_1, sX11_sheetLineHere_4, sX11_sheetLineHere_7, sX11_sheetLineHere_10, sX11_sheetLineHere_11, sX11_sheetLineHere_12, sX11_sheetLineHere_15, sX11_sheetLineHere_16, sX11_sheetLineHere_17, sX11_sheetLineHere_20, sX11_sheetLineHere_21, sX11_sheetLineHere_22, sX11_sheetLineHere_25, sX11_sheetLineHere_26, sX11_sheetLineHere_27, sX11_sheetLineHere_28, sX11_sheetLineHere_31, sX11_sheetLineHere_32, sX11_sheetLineHere_33, sX11_sheetLineHere_36, sX11_sheetLineHere_39, sX11_sheetLineHere_42, sX11_sheetLineHere_43, sX11_sheetLineHere_44, sX11_sheetLineHere_47, sX11_sheetLineHere_48, sX11_sheetLineHere_49, sX11_sheetLineHere_52, sX11_sheetLineHere_55, sX11_sheetLineHere_58, sX11_sheetLineHere_59, sX11_sheetLineHere_62, sX11_sheetLineHere_65, sX11_sheetLineHere_66, sX11_sheetLineHere_69, ↓hk103, ↓bndi_at i0, ↓bndi_at g2, ↓if_pos, ↓if_neg, ↓reduceIte, true_or]
    · refine Or.inr ⟨?_, ?_⟩
      · unfold sfc; rw [if_neg (by omega), if_pos (by omega)]
      · rw [if_neg z] at r0
        have g : cl mX11_isSheetHere [vr 103, vi s] (HP A F E) = some (vi 0, HP A (fF F 9 (1 + 8 * s + 4)) E) := by
          simp (disch := omega) only [eX11_isSheetHere, sX11_isSheetHere_0, sX11_isSheetHere_1, sX11_isSheetHere_4, sX11_isSheetHere_5, sX11_isSheetHere_6, sX11_isSheetHere_9, sX11_isSheetHere_10, sX11_isSheetHere_11, sX11_isSheetHere_12, sX11_isSheetHere_15, sX11_isSheetHere_16, sX11_isSheetHere_17, sX11_isSheetHere_20, sX11_isSheetHere_21, sX11_isSheetHere_22, sX11_isSheetHere_23, sX11_isSheetHere_25, sX11_isSheetHere_28, sX11_isSheetHere_31, sX11_isSheetHere_32, sX11_isSheetHere_33, sX11_isSheetHere_34, sX11_isSheetHere_37, sX11_isSheetHere_38, sX11_isSheetHere_39, sX11_isSheetHere_40, sX11_isSheetHere_41, ↓hk103, ↓hf103_7, ↓hg109, Int.reduceToNat, r0, ↓bndi_at fl, ↓if_pos, ↓if_neg, ↓reduceIte, true_or]
        simp (disch := omega) only [eX11_sheetLineHere, sX11_sheetLineHere_0, sX11_sheetLineHere_1, sX11_sheetLineHere_4, sX11_sheetLineHere_7, sX11_sheetLineHere_10, sX11_sheetLineHere_11, sX11_sheetLineHere_12, sX11_sheetLineHere_15, sX11_sheetLineHere_16, sX11_sheetLineHere_17, sX11_sheetLineHere_20, sX11_sheetLineHere_21, sX11_sheetLineHere_22, sX11_sheetLineHere_25, sX11_sheetLineHere_26, sX11_sheetLineHere_27, sX11_sheetLineHere_28, sX11_sheetLineHere_31, sX11_sheetLineHere_32, sX11_sheetLineHere_33, sX11_sheetLineHere_36, sX11_sheetLineHere_39, sX11_sheetLineHere_42, sX11_sheetLineHere_43, sX11_sheetLineHere_44, sX11_sheetLineHere_47, sX11_sheetLineHere_48, sX11_sheetLineHere_49, sX11_sheetLineHere_52, sX11_sheetLineHere_55, sX11_sheetLineHere_58, sX11_sheetLineHere_59, sX11_sheetLineHere_62, sX11_sheetLineHere_65, sX11_sheetLineHere_66, sX11_sheetLineHere_69, ↓hk103, ↓bndi_at i0, ↓bndi_at g, ↓if_pos, ↓if_neg, ↓reduceIte, true_or]
  · rw [if_neg w0] at i0 hc ⊢
    by_cases z : n = 0
    · rw [if_pos z] at r0
      refine Or.inr ⟨?_, ?_⟩
      · unfold sfc
        rw [if_neg hc, if_pos]
        refine Or.inr (Or.inl ⟨?_, z⟩)
        split
        · omega
        · split
          · omega
          · split <;> omega
      · simp (disch := omega) only [eX11_sheetLineHere, sX11_sheetLineHere_0, sX11_sheetLineHere_1, sX11_sheetLineHere_4, sX11_sheetLineHere_7, sX11_sheetLineHere_10, sX11_sheetLineHere_11, sX11_sheetLineHere_12, sX11_sheetLineHere_15, sX11_sheetLineHere_16, sX11_sheetLineHere_17, sX11_sheetLineHere_20, sX11_sheetLineHere_21, sX11_sheetLineHere_22, sX11_sheetLineHere_25, sX11_sheetLineHere_26, sX11_sheetLineHere_27, sX11_sheetLineHere_28, sX11_sheetLineHere_31, sX11_sheetLineHere_32, sX11_sheetLineHere_33, sX11_sheetLineHere_36, sX11_sheetLineHere_39, sX11_sheetLineHere_42, sX11_sheetLineHere_43, sX11_sheetLineHere_44, sX11_sheetLineHere_47, sX11_sheetLineHere_48, sX11_sheetLineHere_49, sX11_sheetLineHere_52, sX11_sheetLineHere_55, sX11_sheetLineHere_58, sX11_sheetLineHere_59, sX11_sheetLineHere_62, sX11_sheetLineHere_65, sX11_sheetLineHere_66, sX11_sheetLineHere_69, ↓hk103, ↓hf103_7, ↓hg109, Int.reduceToNat, r0, ↓bndi_at i0, ↓bndi_at fl, ↓if_pos, ↓if_neg, ↓reduceIte, true_or]
    · rw [if_neg z] at r0
      by_cases w1 : wdH b L s 1735353714 = true
      · rw [if_pos w1] at i1 ⊢
        by_cases y : W 1 = 5
        · refine Or.inr ⟨?_, ?_⟩
          · unfold sfc; rw [if_neg (by omega), if_pos (by omega)]
          · have r2 : A 109 2 = 5 := by rw [hr.2.2.1]; exact y
            have g : cl mX11_isGoerHere [vr 103, vi s] (HP A F E) = some (vi 0, HP A (fF F 9 (1 + 8 * s + 4)) E) := by
              simp (disch := omega) only [eX11_isGoerHere, sX11_isGoerHere_0, sX11_isGoerHere_1, sX11_isGoerHere_4, sX11_isGoerHere_5, sX11_isGoerHere_6, sX11_isGoerHere_7, sX11_isGoerHere_10, sX11_isGoerHere_11, sX11_isGoerHere_12, sX11_isGoerHere_13, sX11_isGoerHere_16, sX11_isGoerHere_17, sX11_isGoerHere_18, sX11_isGoerHere_21, sX11_isGoerHere_23, sX11_isGoerHere_24, sX11_isGoerHere_25, sX11_isGoerHere_28, sX11_isGoerHere_29, sX11_isGoerHere_30, sX11_isGoerHere_31, sX11_isGoerHere_32, sX11_isGoerHere_33, sX11_isGoerHere_34, sX11_isGoerHere_35, sX11_isGoerHere_36, sX11_isGoerHere_37, sX11_isGoerHere_40, sX11_isGoerHere_43, sX11_isGoerHere_46, sX11_isGoerHere_47, sX11_isGoerHere_48, sX11_isGoerHere_49, sX11_isGoerHere_50, sX11_isGoerHere_51, sX11_isGoerHere_52, sX11_isGoerHere_55, sX11_isGoerHere_58, sX11_isGoerHere_59, sX11_isGoerHere_60, sX11_isGoerHere_61, sX11_isGoerHere_62, sX11_isGoerHere_63, sX11_isGoerHere_65, sX11_isGoerHere_68, sX11_isGoerHere_71, sX11_isGoerHere_72, sX11_isGoerHere_73, sX11_isGoerHere_74, sX11_isGoerHere_77, sX11_isGoerHere_78, sX11_isGoerHere_79, sX11_isGoerHere_80, sX11_isGoerHere_81, sX11_isGoerHere_82, sX11_isGoerHere_83, sX11_isGoerHere_84, ↓hk103, ↓hf103_7, ↓hg109, Int.reduceToNat, r2, ↓bndi_at fl, ↓if_pos, ↓if_neg, ↓reduceIte, true_or, not_true_eq_false]
            simp (disch := omega) only [eX11_sheetLineHere, sX11_sheetLineHere_0, sX11_sheetLineHere_1, sX11_sheetLineHere_4, sX11_sheetLineHere_7, sX11_sheetLineHere_10, sX11_sheetLineHere_11, sX11_sheetLineHere_12, sX11_sheetLineHere_15, sX11_sheetLineHere_16, sX11_sheetLineHere_17, sX11_sheetLineHere_20, sX11_sheetLineHere_21, sX11_sheetLineHere_22, sX11_sheetLineHere_25, sX11_sheetLineHere_26, sX11_sheetLineHere_27, sX11_sheetLineHere_28, sX11_sheetLineHere_31, sX11_sheetLineHere_32, sX11_sheetLineHere_33, sX11_sheetLineHere_36, sX11_sheetLineHere_39, sX11_sheetLineHere_42, sX11_sheetLineHere_43, sX11_sheetLineHere_44, sX11_sheetLineHere_47, sX11_sheetLineHere_48, sX11_sheetLineHere_49, sX11_sheetLineHere_52, sX11_sheetLineHere_55, sX11_sheetLineHere_58, sX11_sheetLineHere_59, sX11_sheetLineHere_62, sX11_sheetLineHere_65, sX11_sheetLineHere_66, sX11_sheetLineHere_69, ↓hk103, ↓hf103_7, ↓hg109, Int.reduceToNat, r0, ↓bndi_at i0, ↓bndi_at i1, ↓bndi_at g, ↓if_pos, ↓if_neg, ↓reduceIte, true_or]
        · refine Or.inl ⟨?_, ?_⟩
          · unfold sfc; rw [if_neg (by omega), if_neg (by omega)]
          · obtain ⟨A', F', f1, f2, ⟨g1, g2, g3⟩ | ⟨g1, g2, g3⟩⟩ := c_goer (E := E) (nf := nf) tm h8 h9 s0 xe hv hr (by omega) hw (by omega)
            · refine ⟨A', F', f1, f2, Or.inl ⟨g1, ?_, g3⟩⟩
              simp (disch := omega) only [eX11_sheetLineHere, sX11_sheetLineHere_0, sX11_sheetLineHere_1, sX11_sheetLineHere_4, sX11_sheetLineHere_7, sX11_sheetLineHere_10, sX11_sheetLineHere_11, sX11_sheetLineHere_12, sX11_sheetLineHere_15, sX11_sheetLineHere_16, sX11_sheetLineHere_17, sX11_sheetLineHere_20, sX11_sheetLineHere_21, sX11_sheetLineHere_22, sX11_sheetLineHere_25, sX11_sheetLineHere_26, sX11_sheetLineHere_27, sX11_sheetLineHere_28, sX11_sheetLineHere_31, sX11_sheetLineHere_32, sX11_sheetLineHere_33, sX11_sheetLineHere_36, sX11_sheetLineHere_39, sX11_sheetLineHere_42, sX11_sheetLineHere_43, sX11_sheetLineHere_44, sX11_sheetLineHere_47, sX11_sheetLineHere_48, sX11_sheetLineHere_49, sX11_sheetLineHere_52, sX11_sheetLineHere_55, sX11_sheetLineHere_58, sX11_sheetLineHere_59, sX11_sheetLineHere_62, sX11_sheetLineHere_65, sX11_sheetLineHere_66, sX11_sheetLineHere_69, ↓hk103, ↓hf103_7, ↓hg109, Int.reduceToNat, r0, ↓bndi_at i0, ↓bndi_at i1, ↓bndi_at g2, ↓if_pos, ↓if_neg, ↓reduceIte, or_true]
            · refine ⟨A', F', f1, f2, Or.inr ⟨g1, ?_, g3⟩⟩
              simp (disch := omega) only [eX11_sheetLineHere, sX11_sheetLineHere_0, sX11_sheetLineHere_1, sX11_sheetLineHere_4, sX11_sheetLineHere_7, sX11_sheetLineHere_10, sX11_sheetLineHere_11, sX11_sheetLineHere_12, sX11_sheetLineHere_15, sX11_sheetLineHere_16, sX11_sheetLineHere_17, sX11_sheetLineHere_20, sX11_sheetLineHere_21, sX11_sheetLineHere_22, sX11_sheetLineHere_25, sX11_sheetLineHere_26, sX11_sheetLineHere_27, sX11_sheetLineHere_28, sX11_sheetLineHere_31, sX11_sheetLineHere_32, sX11_sheetLineHere_33, sX11_sheetLineHere_36, sX11_sheetLineHere_39, sX11_sheetLineHere_42, sX11_sheetLineHere_43, sX11_sheetLineHere_44, sX11_sheetLineHere_47, sX11_sheetLineHere_48, sX11_sheetLineHere_49, sX11_sheetLineHere_52, sX11_sheetLineHere_55, sX11_sheetLineHere_58, sX11_sheetLineHere_59, sX11_sheetLineHere_62, sX11_sheetLineHere_65, sX11_sheetLineHere_66, sX11_sheetLineHere_69, ↓hk103, ↓hf103_7, ↓hg109, Int.reduceToNat, r0, ↓bndi_at i0, ↓bndi_at i1, ↓bndi_at g2, ↓if_pos, ↓if_neg, ↓reduceIte, true_or]
      · rw [if_neg w1] at i1 hc ⊢
        by_cases w2 : wdH b L s 1785686382 = true
        · rw [if_pos w2] at i2 ⊢
          refine Or.inl ⟨?_, ?_⟩
          · unfold sfc; rw [if_neg (by omega), if_neg (by omega)]
          · obtain ⟨A', F', f1, f2, ⟨g1, g2, g3⟩ | ⟨g1, g2, g3⟩⟩ := c_join (E := E) (nf := nf) tm h8 h9 s0 xe hv hr (by omega)
            · refine ⟨A', F', f1, f2, Or.inl ⟨g1, ?_, g3⟩⟩
              simp (disch := omega) only [eX11_sheetLineHere, sX11_sheetLineHere_0, sX11_sheetLineHere_1, sX11_sheetLineHere_4, sX11_sheetLineHere_7, sX11_sheetLineHere_10, sX11_sheetLineHere_11, sX11_sheetLineHere_12, sX11_sheetLineHere_15, sX11_sheetLineHere_16, sX11_sheetLineHere_17, sX11_sheetLineHere_20, sX11_sheetLineHere_21, sX11_sheetLineHere_22, sX11_sheetLineHere_25, sX11_sheetLineHere_26, sX11_sheetLineHere_27, sX11_sheetLineHere_28, sX11_sheetLineHere_31, sX11_sheetLineHere_32, sX11_sheetLineHere_33, sX11_sheetLineHere_36, sX11_sheetLineHere_39, sX11_sheetLineHere_42, sX11_sheetLineHere_43, sX11_sheetLineHere_44, sX11_sheetLineHere_47, sX11_sheetLineHere_48, sX11_sheetLineHere_49, sX11_sheetLineHere_52, sX11_sheetLineHere_55, sX11_sheetLineHere_58, sX11_sheetLineHere_59, sX11_sheetLineHere_62, sX11_sheetLineHere_65, sX11_sheetLineHere_66, sX11_sheetLineHere_69, ↓hk103, ↓hf103_7, ↓hg109, Int.reduceToNat, r0, ↓bndi_at i0, ↓bndi_at i1, ↓bndi_at i2, ↓bndi_at g2, ↓if_pos, ↓if_neg, ↓reduceIte, or_true]
            · refine ⟨A', F', f1, f2, Or.inr ⟨g1, ?_, g3⟩⟩
              simp (disch := omega) only [eX11_sheetLineHere, sX11_sheetLineHere_0, sX11_sheetLineHere_1, sX11_sheetLineHere_4, sX11_sheetLineHere_7, sX11_sheetLineHere_10, sX11_sheetLineHere_11, sX11_sheetLineHere_12, sX11_sheetLineHere_15, sX11_sheetLineHere_16, sX11_sheetLineHere_17, sX11_sheetLineHere_20, sX11_sheetLineHere_21, sX11_sheetLineHere_22, sX11_sheetLineHere_25, sX11_sheetLineHere_26, sX11_sheetLineHere_27, sX11_sheetLineHere_28, sX11_sheetLineHere_31, sX11_sheetLineHere_32, sX11_sheetLineHere_33, sX11_sheetLineHere_36, sX11_sheetLineHere_39, sX11_sheetLineHere_42, sX11_sheetLineHere_43, sX11_sheetLineHere_44, sX11_sheetLineHere_47, sX11_sheetLineHere_48, sX11_sheetLineHere_49, sX11_sheetLineHere_52, sX11_sheetLineHere_55, sX11_sheetLineHere_58, sX11_sheetLineHere_59, sX11_sheetLineHere_62, sX11_sheetLineHere_65, sX11_sheetLineHere_66, sX11_sheetLineHere_69, ↓hk103, ↓hf103_7, ↓hg109, Int.reduceToNat, r0, ↓bndi_at i0, ↓bndi_at i1, ↓bndi_at i2, ↓bndi_at g2, ↓if_pos, ↓if_neg, ↓reduceIte, true_or]
        · rw [if_neg w2] at i2 hc ⊢
          by_cases w3 : wdH b L s 495874698853 = true
          · rw [if_pos w3]
            refine Or.inl ⟨?_, ?_⟩
            · unfold sfc; rw [if_neg (by omega), if_neg (by omega)]
            · obtain ⟨A', F', f1, f2, ⟨g1, g2, g3⟩ | ⟨g1, g2, g3⟩⟩ := c_stone (E := E) (nf := nf) tm h8 h9 s0 xe hv hr (by omega) hw
              · refine ⟨A', F', f1, f2, Or.inl ⟨g1, ?_, g3⟩⟩
                simp (disch := omega) only [eX11_sheetLineHere, sX11_sheetLineHere_0, sX11_sheetLineHere_1, sX11_sheetLineHere_4, sX11_sheetLineHere_7, sX11_sheetLineHere_10, sX11_sheetLineHere_11, sX11_sheetLineHere_12, sX11_sheetLineHere_15, sX11_sheetLineHere_16, sX11_sheetLineHere_17, sX11_sheetLineHere_20, sX11_sheetLineHere_21, sX11_sheetLineHere_22, sX11_sheetLineHere_25, sX11_sheetLineHere_26, sX11_sheetLineHere_27, sX11_sheetLineHere_28, sX11_sheetLineHere_31, sX11_sheetLineHere_32, sX11_sheetLineHere_33, sX11_sheetLineHere_36, sX11_sheetLineHere_39, sX11_sheetLineHere_42, sX11_sheetLineHere_43, sX11_sheetLineHere_44, sX11_sheetLineHere_47, sX11_sheetLineHere_48, sX11_sheetLineHere_49, sX11_sheetLineHere_52, sX11_sheetLineHere_55, sX11_sheetLineHere_58, sX11_sheetLineHere_59, sX11_sheetLineHere_62, sX11_sheetLineHere_65, sX11_sheetLineHere_66, sX11_sheetLineHere_69, ↓hk103, ↓hf103_7, ↓hg109, Int.reduceToNat, r0, ↓bndi_at i0, ↓bndi_at i1, ↓bndi_at i2, ↓bndi_at g2, ↓if_pos, ↓if_neg, ↓reduceIte, or_true]
              · refine ⟨A', F', f1, f2, Or.inr ⟨g1, ?_, g3⟩⟩
                simp (disch := omega) only [eX11_sheetLineHere, sX11_sheetLineHere_0, sX11_sheetLineHere_1, sX11_sheetLineHere_4, sX11_sheetLineHere_7, sX11_sheetLineHere_10, sX11_sheetLineHere_11, sX11_sheetLineHere_12, sX11_sheetLineHere_15, sX11_sheetLineHere_16, sX11_sheetLineHere_17, sX11_sheetLineHere_20, sX11_sheetLineHere_21, sX11_sheetLineHere_22, sX11_sheetLineHere_25, sX11_sheetLineHere_26, sX11_sheetLineHere_27, sX11_sheetLineHere_28, sX11_sheetLineHere_31, sX11_sheetLineHere_32, sX11_sheetLineHere_33, sX11_sheetLineHere_36, sX11_sheetLineHere_39, sX11_sheetLineHere_42, sX11_sheetLineHere_43, sX11_sheetLineHere_44, sX11_sheetLineHere_47, sX11_sheetLineHere_48, sX11_sheetLineHere_49, sX11_sheetLineHere_52, sX11_sheetLineHere_55, sX11_sheetLineHere_58, sX11_sheetLineHere_59, sX11_sheetLineHere_62, sX11_sheetLineHere_65, sX11_sheetLineHere_66, sX11_sheetLineHere_69, ↓hk103, ↓hf103_7, ↓hg109, Int.reduceToNat, r0, ↓bndi_at i0, ↓bndi_at i1, ↓bndi_at i2, ↓bndi_at g2, ↓if_pos, ↓if_neg, ↓reduceIte, true_or]
          · rw [if_neg w3] at hc
            exact absurd rfl hc
theorem m_clause (tm : TM A F b L) (h9 : F 103 9 = 0) (h11 : F 103 11 = 6) (h14 : F 103 14 = n) (n0 : 0 ≤ n ∧ n ≤ 40) (hx : 0 ≤ X.1 ∧ X.1 ≤ L) (hv : -1 ≤ X.2.2.2 ∧ X.2.2.2 ≤ 99999) (pc : plc F b L X.1) (hr : shR (A 109) W n) (hw : swo W n) : ∃ A' F', sfr A F A' F' ∧ (((scl b L n W X nf (cwd b L (sk b L X.1))).1 = 0 ∧ cl mX11_clauseHere [vr 103] (HP A F E) = some (vi 1, HP A' F' E) ∧ F' 103 9 = 0 ∧ F' 103 14 = n + 1 ∧ plc F' b L (scl b L n W X nf (cwd b L (sk b L X.1))).2.2.1.1 ∧ shR (A' 109) (scl b L n W X nf (cwd b L (sk b L X.1))).2.1 (n + 1) ∧ swo (scl b L n W X nf (cwd b L (sk b L X.1))).2.1 (n + 1) ∧ n < 40) ∨ ((scl b L n W X nf (cwd b L (sk b L X.1))).1 ≠ 0 ∧ cl mX11_clauseHere [vr 103] (HP A F E) = some (vi 0, HP A' F' E) ∧ F' 103 9 = (scl b L n W X nf (cwd b L (sk b L X.1))).1)) := by
  have L4 := tm.2.1
  have kb := sk_b (b := b) hx.2
  have si := sk_id (b := b) (L := L) hx.1 hx.2
  have se := m_see (E := E) tm rfl pc.1.1 pc.1.2
  have tc := tnx_c (va := X.2.2.2) tm.2.2.1 hx.1 hx.2
  have tb := t_pl (b := b) (L := L) (p := X.1) (va := X.2.2.2) hx hv
  rw [pc.2] at se
  have wx : cwd b L (sk b L X.1) ≠ -1 → (tnx b L X.1 X.2.2.2).1 = wde b L (sk b L X.1) := by
    intro q
    have no : ltr (byt b L (sk b L X.1)) = false → False := fun h => q (by
      unfold cwd
      rw [wdH_0 (by omega) h, wdH_0 (by omega) h, wdH_0 (by omega) h, wdH_0 (by omega) h]
      rfl)
    obtain ⟨t1, ⟨u1, u2, u3, u4, _⟩ | ⟨u1, u2, u3, u4⟩ | ⟨u1, u2, u3, u4⟩ | ⟨u1, u2, u3, _, u4⟩⟩ := tc
    · exact absurd (no u4) id
    · exact absurd (no u3) id
    · rw [u4]
    · exact absurd (no u3) id
  have ts := tc.1
  unfold scl
  generalize hs : sk b L X.1 = s at *
  generalize tnx b L X.1 X.2.2.2 = X1 at *
  have s0 : 0 ≤ s ∧ s ≤ L := by omega
  have tm1 : TM A (fF F 8 s) b L := TM_f tm (by omega)
  have e9 : fF F 8 s 103 9 = 0 := by rw [fF_n (by omega)]; exact h9
  have e11 : fF F 8 s 103 11 = 6 := by rw [fF_n (by omega)]; exact h11
  have e14 : fF F 8 s 103 14 = n := by rw [fF_n (by omega)]; exact h14
  have e8 : fF F 8 s 103 8 = s := fF_s
  have sw := m_sheetWord (E := E) tm1 e8 s0 si
  by_cases c : cwd b L s = -1
  · rw [if_pos c] at sw
    have fl := m_fails (A := A) (E := E) (k := 0) (at' := s) e9 (by omega) (by omega)
    have sc : sfc (W 1) (cwd b L s) n = 0 := by unfold sfc; rw [if_pos c]
    refine ⟨A, fF (fF F 8 s) 9 (1 + 8 * s + 0), sfr_t (sfr_f (Or.inl rfl)) (sfr_f (Or.inr (Or.inl rfl))), Or.inr ?_⟩
    rw [sc, if_neg (by omega)]
    refine ⟨by dsimp only; omega, ?_, by rw [fF_s, ts]⟩
    simp (disch := omega) only [eX11_clauseHere, sX11_clauseHere_0, sX11_clauseHere_1, sX11_clauseHere_4, sX11_clauseHere_5, sX11_clauseHere_6, sX11_clauseHere_9, sX11_clauseHere_10, sX11_clauseHere_11, sX11_clauseHere_14, sX11_clauseHere_16, sX11_clauseHere_19, sX11_clauseHere_20, sX11_clauseHere_23, sX11_clauseHere_24, sX11_clauseHere_25, sX11_clauseHere_26, sX11_clauseHere_29, sX11_clauseHere_30, sX11_clauseHere_33, sX11_clauseHere_36, sX11_clauseHere_39, sX11_clauseHere_40, sX11_clauseHere_43, sX11_clauseHere_46, sX11_clauseHere_49, sX11_clauseHere_50, sX11_clauseHere_51, sX11_clauseHere_52, sX11_clauseHere_55, sX11_clauseHere_56, sX11_clauseHere_57, sX11_clauseHere_60, sX11_clauseHere_61, sX11_clauseHere_64, sX11_clauseHere_66, sX11_clauseHere_69, sX11_clauseHere_71, sX11_clauseHere_74, sX11_clauseHere_75, sX11_clauseHere_76, sX11_clauseHere_77, sX11_clauseHere_80, sX11_clauseHere_81, sX11_clauseHere_82, sX11_clauseHere_83, sX11_clauseHere_86, sX11_clauseHere_87, sX11_clauseHere_88, sX11_clauseHere_91, sX11_clauseHere_92, sX11_clauseHere_95, sX11_clauseHere_96, sX11_clauseHere_97, sX11_clauseHere_100, sX11_clauseHere_103, sX11_clauseHere_104, sX11_clauseHere_107, ↓hk103, ↓hf103_8, ↓hf103_11, ↓bndi_at se, e8, e11, ↓bndi_at sw, ↓bndi_at fl, ↓if_pos, ↓if_neg, ↓reduceIte, true_or, not_true_eq_false]
  · rw [if_neg c] at sw
    by_cases n4 : n = 40
    · have fl := m_fails (A := A) (E := E) (k := 4) (at' := s) e9 (by omega) (by omega)
      have sc : sfc (W 1) (cwd b L s) n = 4 := by unfold sfc; rw [if_neg c, if_pos (by omega)]
      refine ⟨A, fF (fF F 8 s) 9 (1 + 8 * s + 4), sfr_t (sfr_f (Or.inl rfl)) (sfr_f (Or.inr (Or.inl rfl))), Or.inr ?_⟩
      rw [sc, if_neg (by omega)]
      refine ⟨by dsimp only; omega, ?_, by rw [fF_s, ts]⟩
      simp (disch := omega) only [eX11_clauseHere, sX11_clauseHere_0, sX11_clauseHere_1, sX11_clauseHere_4, sX11_clauseHere_5, sX11_clauseHere_6, sX11_clauseHere_9, sX11_clauseHere_10, sX11_clauseHere_11, sX11_clauseHere_14, sX11_clauseHere_16, sX11_clauseHere_19, sX11_clauseHere_20, sX11_clauseHere_23, sX11_clauseHere_24, sX11_clauseHere_25, sX11_clauseHere_26, sX11_clauseHere_29, sX11_clauseHere_30, sX11_clauseHere_33, sX11_clauseHere_36, sX11_clauseHere_39, sX11_clauseHere_40, sX11_clauseHere_43, sX11_clauseHere_46, sX11_clauseHere_49, sX11_clauseHere_50, sX11_clauseHere_51, sX11_clauseHere_52, sX11_clauseHere_55, sX11_clauseHere_56, sX11_clauseHere_57, sX11_clauseHere_60, sX11_clauseHere_61, sX11_clauseHere_64, sX11_clauseHere_66, sX11_clauseHere_69, sX11_clauseHere_71, sX11_clauseHere_74, sX11_clauseHere_75, sX11_clauseHere_76, sX11_clauseHere_77, sX11_clauseHere_80, sX11_clauseHere_81, sX11_clauseHere_82, sX11_clauseHere_83, sX11_clauseHere_86, sX11_clauseHere_87, sX11_clauseHere_88, sX11_clauseHere_91, sX11_clauseHere_92, sX11_clauseHere_95, sX11_clauseHere_96, sX11_clauseHere_97, sX11_clauseHere_100, sX11_clauseHere_103, sX11_clauseHere_104, sX11_clauseHere_107, ↓hk103, ↓hf103_8, ↓hf103_11, ↓hf103_14, ↓bndi_at se, e8, e11, e14, ↓bndi_at sw, ↓bndi_at fl, ↓if_pos, ↓if_neg, ↓reduceIte, true_or, not_true_eq_false]
    · have tm2 : TM A (fF (fF F 8 s) 14 (n + 1)) b L := TM_f tm1 (by omega)
      have g8 : fF (fF F 8 s) 14 (n + 1) 103 8 = s := by rw [fF_n (by omega)]; exact e8
      have g9 : fF (fF F 8 s) 14 (n + 1) 103 9 = 0 := by rw [fF_n (by omega)]; exact e9
      have g14 : fF (fF F 8 s) 14 (n + 1) 103 14 = n + 1 := fF_s
      have pt : ∀ L st, rn mX11_clauseHere 91 L st (HP A (aup (fF F 8 s) 103 (fup (fF F 8 s 103) 14 (n + 1))) E) = rn mX11_clauseHere 91 L st (HP A (fF (fF F 8 s) 14 (n + 1)) E) := fun _ _ => rfl
      have pre : ∀ r H, (r = 0 ∨ r = 1) → cl mX11_sheetLineHere [vr 103, vi s] (HP A (fF (fF F 8 s) 14 (n + 1)) E) = some (vi r, H) → cl mX11_clauseHere [vr 103] (HP A F E) = some (vi r, H) := by
        intro r H hr' e
        simp (disch := omega) only [eX11_clauseHere, sX11_clauseHere_0, sX11_clauseHere_1, sX11_clauseHere_4, sX11_clauseHere_5, sX11_clauseHere_6, sX11_clauseHere_9, sX11_clauseHere_10, sX11_clauseHere_11, sX11_clauseHere_14, sX11_clauseHere_16, sX11_clauseHere_19, sX11_clauseHere_20, sX11_clauseHere_23, sX11_clauseHere_24, sX11_clauseHere_25, sX11_clauseHere_26, sX11_clauseHere_29, sX11_clauseHere_30, sX11_clauseHere_33, sX11_clauseHere_36, sX11_clauseHere_39, sX11_clauseHere_40, sX11_clauseHere_43, sX11_clauseHere_46, sX11_clauseHere_49, sX11_clauseHere_50, sX11_clauseHere_51, sX11_clauseHere_52, sX11_clauseHere_55, sX11_clauseHere_56, sX11_clauseHere_57, sX11_clauseHere_60, sX11_clauseHere_61, sX11_clauseHere_64, sX11_clauseHere_66, sX11_clauseHere_69, sX11_clauseHere_71, sX11_clauseHere_74, sX11_clauseHere_75, sX11_clauseHere_76, sX11_clauseHere_77, sX11_clauseHere_80, sX11_clauseHere_81, sX11_clauseHere_82, sX11_clauseHere_83, sX11_clauseHere_86, sX11_clauseHere_87, sX11_clauseHere_88, sX11_clauseHere_92, sX11_clauseHere_95, sX11_clauseHere_96, sX11_clauseHere_97, sX11_clauseHere_100, sX11_clauseHere_103, sX11_clauseHere_104, sX11_clauseHere_107, ↓hk103, ↓hf103_8, ↓hf103_11, ↓hf103_14, ↓hp103_14, ↓bndi_at se, e8, e11, e14, ↓bndi_at sw, i32_of, ↓if_pos, ↓if_neg, not_true_eq_false, ↓reduceIte]
        rw [pt]
        rcases hr' with rfl | rfl
        · simp (disch := omega) only [eX11_clauseHere, sX11_clauseHere_0, sX11_clauseHere_1, sX11_clauseHere_4, sX11_clauseHere_5, sX11_clauseHere_6, sX11_clauseHere_9, sX11_clauseHere_10, sX11_clauseHere_11, sX11_clauseHere_14, sX11_clauseHere_16, sX11_clauseHere_19, sX11_clauseHere_20, sX11_clauseHere_23, sX11_clauseHere_24, sX11_clauseHere_25, sX11_clauseHere_26, sX11_clauseHere_29, sX11_clauseHere_30, sX11_clauseHere_33, sX11_clauseHere_36, sX11_clauseHere_39, sX11_clauseHere_40, sX11_clauseHere_43, sX11_clauseHere_46, sX11_clauseHere_49, sX11_clauseHere_50, sX11_clauseHere_51, sX11_clauseHere_52, sX11_clauseHere_55, sX11_clauseHere_56, sX11_clauseHere_57, sX11_clauseHere_60, sX11_clauseHere_61, sX11_clauseHere_64, sX11_clauseHere_66, sX11_clauseHere_69, sX11_clauseHere_71, sX11_clauseHere_74, sX11_clauseHere_75, sX11_clauseHere_76, sX11_clauseHere_77, sX11_clauseHere_80, sX11_clauseHere_81, sX11_clauseHere_82, sX11_clauseHere_83, sX11_clauseHere_86, sX11_clauseHere_87, sX11_clauseHere_88, sX11_clauseHere_91, sX11_clauseHere_92, sX11_clauseHere_95, sX11_clauseHere_96, sX11_clauseHere_97, sX11_clauseHere_100, sX11_clauseHere_103, sX11_clauseHere_104, sX11_clauseHere_107, ↓hk103, ↓bndi_at e, ↓if_pos, ↓if_neg, ↓reduceIte, true_or]
        · simp (disch := omega) only [eX11_clauseHere, sX11_clauseHere_0, sX11_clauseHere_1, sX11_clauseHere_4, sX11_clauseHere_5, sX11_clauseHere_6, sX11_clauseHere_9, sX11_clauseHere_10, sX11_clauseHere_11, sX11_clauseHere_14, sX11_clauseHere_16, sX11_clauseHere_19, sX11_clauseHere_20, sX11_clauseHere_23, sX11_clauseHere_24, sX11_clauseHere_25, sX11_clauseHere_26, sX11_clauseHere_29, sX11_clauseHere_30, sX11_clauseHere_33, sX11_clauseHere_36, sX11_clauseHere_39, sX11_clauseHere_40, sX11_clauseHere_43, sX11_clauseHere_46, sX11_clauseHere_49, sX11_clauseHere_50, sX11_clauseHere_51, sX11_clauseHere_52, sX11_clauseHere_55, sX11_clauseHere_56, sX11_clauseHere_57, sX11_clauseHere_60, sX11_clauseHere_61, sX11_clauseHere_64, sX11_clauseHere_66, sX11_clauseHere_69, sX11_clauseHere_71, sX11_clauseHere_74, sX11_clauseHere_75, sX11_clauseHere_76, sX11_clauseHere_77, sX11_clauseHere_80, sX11_clauseHere_81, sX11_clauseHere_82, sX11_clauseHere_83, sX11_clauseHere_86, sX11_clauseHere_87, sX11_clauseHere_88, sX11_clauseHere_91, sX11_clauseHere_92, sX11_clauseHere_95, sX11_clauseHere_96, sX11_clauseHere_97, sX11_clauseHere_100, sX11_clauseHere_103, sX11_clauseHere_104, sX11_clauseHere_107, ↓hk103, ↓bndi_at e, ↓if_pos, ↓if_neg, ↓reduceIte, or_true]
      have fr0 : sfr A F A (fF (fF F 8 s) 14 (n + 1)) := sfr_t (sfr_f (Or.inl rfl)) (sfr_f (Or.inr (Or.inr (Or.inr rfl))))
      rcases m_line (E := E) (nf := nf) (X := X1) tm2 g8 g9 s0 si wx tb.2 hr hw (by omega) c with ⟨z1, A', F', f1, f2, ⟨k1, k2, k3, k4, k5, k6⟩ | ⟨k1, k2, k3⟩⟩ | ⟨z1, z2⟩
      · refine ⟨A', F', sfr_t fr0 f1, Or.inl ?_⟩
        rw [if_pos z1, if_pos k1]
        have cb : 0 ≤ cwd b L s ∧ cwd b L s ≤ 3 := by
          revert c; unfold cwd
          split
          · omega
          · split
            · omega
            · split
              · omega
              · split <;> omega
        exact ⟨rfl, pre 1 _ (Or.inr rfl) k2, k3, by rw [f2, g14], k4, k6, stk_wo hw n0.1 z1 cb k5, by omega⟩
      · have rw' := rnu_w (f := b) (W := W) (L := L) (c := cwd b L s) (smn (cwd b L s)) 0 X1 nf
        have rt := rnu_t (f := b) (W := W) (L := L) (c := cwd b L s) tm.2.2.1 (smn (cwd b L s)) 0 X1 nf ⟨⟨by omega, tb.1.1⟩, tb.1.2, tb.2⟩
        refine ⟨A', F', sfr_t fr0 f1, Or.inr ?_⟩
        rw [if_pos z1, if_neg k1]
        have st0 := rt.1.1
        exact ⟨by dsimp only; omega, pre 0 _ (Or.inl rfl) k2, k3⟩
      · refine ⟨A, fF (fF (fF F 8 s) 14 (n + 1)) 9 (1 + 8 * s + 4), sfr_t fr0 (sfr_f (Or.inr (Or.inl rfl))), Or.inr ?_⟩
        rw [z1, if_neg (by omega)]
        exact ⟨by dsimp only; omega, pre 0 _ (Or.inl rfl) z2, by rw [fF_s, ts]⟩
end CH
