/-! a sheet's clauses in the model: the calls -/
section SC
variable {A F : Nat → Nat → Int} {E : zE} {b W nf : Nat → Int} {L n s : Int} {X : Int × Int × Int × Int}
theorem plc_i {x : Int} (h : F 103 8 = x) (h0 : 0 ≤ x ∧ x ≤ L) : plc F b L x := ⟨by rw [h]; exact h0, by rw [h]⟩
theorem t_pl {va p : Int} (h0 : 0 ≤ p ∧ p ≤ L) (hv : -1 ≤ va ∧ va ≤ 99999) : (0 ≤ (tnx b L p va).1 ∧ (tnx b L p va).1 ≤ L) ∧ -1 ≤ (tnx b L p va).2.2.2 ∧ (tnx b L p va).2.2.2 ≤ 99999 := by
  have := tnx_b (f := b) (L := L) h0.1 h0.2 hv
  omega
/-- a clause's outcome in the model, by the class's numbers R -/
def cres (cm : zMd) (as : List zV) (A F : Nat → Nat → Int) (E : zE) (b W : Nat → Int) (L n c : Int) (R : Int × (Int × Int × Int × Int) × (Nat → Int)) : Prop := ∃ A' F', sfr A F A' F' ∧ F' 103 14 = F 103 14 ∧ ((R.1 = -1 ∧ cl cm as (HP A F E) = some (vi 1, HP A' F' E) ∧ F' 103 9 = 0 ∧ plc F' b L R.2.1.1 ∧ nok W c R.2.2 ∧ shR (A' 109) (stk W c R.2.2) (n + 1)) ∨ (R.1 ≠ -1 ∧ cl cm as (HP A F E) = some (vi 0, HP A' F' E) ∧ F' 103 9 = 1 + 8 * R.2.1.2.1 + R.1))
theorem m_lastCell (h0 : 0 ≤ A 109 1 ∧ A 109 1 ≤ 6) : cl mX11_lastCell [vr 103] (HP A F E) = some (vi (A 109 1 * A 109 1 - 1), HP A F E) := by
  have q := sq_b h0.1 h0.2
  simp (disch := omega) only [eX11_lastCell, sX11_lastCell_0, sX11_lastCell_1, sX11_lastCell_4, sX11_lastCell_5, sX11_lastCell_6, sX11_lastCell_7, sX11_lastCell_10, sX11_lastCell_11, sX11_lastCell_12, sX11_lastCell_13, sX11_lastCell_14, sX11_lastCell_15, ↓hf103_7, ↓hg109, Int.reduceToNat, i32_of]
theorem c_sheet (tm : TM A F b L) (h8 : F 103 8 = s) (h9 : F 103 9 = 0) (s0 : 0 ≤ s ∧ s ≤ L) (hx : X.1 = wde b L s) (hv : -1 ≤ X.2.2.2 ∧ X.2.2.2 ≤ 99999) (hr : shR (A 109) W n) (hn : n = 0) : cres mX11_isSheetHere [vr 103, vi s] A F E b W L n 0 (rnu b W L 0 1 0 X nf) := by
  have pw := m_passWord (E := E) tm h8 s0.1 s0.2
  have wb := wde_b (b := b) s0.2
  rw [← hx] at pw wb
  have r0 : A 109 0 = 0 := by rw [hr.1, if_pos hn]
  have tm1 : TM A (fF F 8 X.1) b L := TM_f tm (by omega)
  have e1 : (if (0 : Int) = 0 then (2 : Int) else 0) = 2 := rfl
  have e2 : smo W 0 ((0 : Nat) : Int) = 6 := rfl
  obtain ⟨F', n1, ⟨v, u1, u2, u3, u4, u5, u6⟩ | ⟨u1, u2, u3⟩⟩ := m_cst (E := E) (ce := 1) (W := W) (nf := nf) (c := 0) (m := 0) (k := 0) (X := X) tm1 (by rw [fF_n (by omega)]; exact h9) (by omega) (plc_i fF_s (by omega)) (by omega)
  · rw [e1, e2] at u4
    rw [e1] at u1
    rw [e2] at u2
    have pl := t_pl (b := b) (L := L) (p := X.1) (va := X.2.2.2) (by omega) hv
    refine ⟨aup A 109 (fup (fup (A 109) 1 v) 0 1), F', sfr_t (sfr_f (Or.inl rfl)) (sfr_t (sfr_n n1) sfr_a), by rw [n1.2 14 (by omega) (by omega) (by omega), fF_n (by omega)], Or.inl ?_⟩
    rw [u3, rnu]
    dsimp only
    refine ⟨rfl, ?_, u6, plc_i u5 pl.1, fun j hj => ?_, ?_⟩
    · simp (disch := omega) only [eX11_isSheetHere, sX11_isSheetHere_0, sX11_isSheetHere_1, sX11_isSheetHere_4, sX11_isSheetHere_5, sX11_isSheetHere_6, sX11_isSheetHere_9, sX11_isSheetHere_10, sX11_isSheetHere_11, sX11_isSheetHere_12, sX11_isSheetHere_15, sX11_isSheetHere_16, sX11_isSheetHere_17, sX11_isSheetHere_20, sX11_isSheetHere_21, sX11_isSheetHere_22, sX11_isSheetHere_23, sX11_isSheetHere_25, sX11_isSheetHere_28, sX11_isSheetHere_31, sX11_isSheetHere_32, sX11_isSheetHere_33, sX11_isSheetHere_34, sX11_isSheetHere_37, sX11_isSheetHere_38, sX11_isSheetHere_39, sX11_isSheetHere_40, sX11_isSheetHere_41, ↓hk103, ↓hf103_7, ↓hg109, ↓hs109, r0, ↓bndv_at pw, ↓bndi_at u4, aup_s, aup_aup, Int.reduceToNat, ↓if_pos, ↓if_neg, ↓reduceIte, or_true]
    · have : j = 0 := by unfold smn at hj; simp at hj; exact hj
      subst this
      rw [e1, e2, fup_s]
      exact ⟨u1, u2⟩
    · obtain ⟨a1, a2, a3, a4, a5, a6, a7⟩ := hr
      rw [aup_s]
      unfold stk
      rw [if_pos rfl, fup_s]
      refine ⟨by rw [fup_s, if_neg (by omega)], by rw [fup_n (by omega), fup_s, fup_s], by rw [fup_n (by omega), fup_n (by omega), fup_n (by omega)]; exact a3, fun e he => ?_, fun e he => ?_, fun e he => ?_, fun g hg => ?_⟩
      · simp (disch := omega) only [fup_n]; exact a4 e he
      · simp (disch := omega) only [fup_n]; exact a5 e he
      · simp (disch := omega) only [fup_n]; exact a6 e he
      · simp (disch := omega) only [fup_n]; exact a7 g hg
  · rw [e1, e2] at u1
    refine ⟨A, F', sfr_t (sfr_f (Or.inl rfl)) (sfr_n n1), by rw [n1.2 14 (by omega) (by omega) (by omega), fF_n (by omega)], Or.inr ⟨u2, ?_, u3⟩⟩
    simp (disch := omega) only [eX11_isSheetHere, sX11_isSheetHere_0, sX11_isSheetHere_1, sX11_isSheetHere_4, sX11_isSheetHere_5, sX11_isSheetHere_6, sX11_isSheetHere_9, sX11_isSheetHere_10, sX11_isSheetHere_11, sX11_isSheetHere_12, sX11_isSheetHere_15, sX11_isSheetHere_16, sX11_isSheetHere_17, sX11_isSheetHere_20, sX11_isSheetHere_21, sX11_isSheetHere_22, sX11_isSheetHere_23, sX11_isSheetHere_25, sX11_isSheetHere_28, sX11_isSheetHere_31, sX11_isSheetHere_32, sX11_isSheetHere_33, sX11_isSheetHere_34, sX11_isSheetHere_37, sX11_isSheetHere_38, sX11_isSheetHere_39, sX11_isSheetHere_40, sX11_isSheetHere_41, ↓hk103, ↓hf103_7, ↓hg109, r0, ↓bndv_at pw, ↓bndi_at u1, Int.reduceToNat, ↓if_pos, ↓if_neg, ↓reduceIte, true_or]
theorem c_stone (tm : TM A F b L) (h8 : F 103 8 = s) (h9 : F 103 9 = 0) (s0 : 0 ≤ s ∧ s ≤ L) (hx : X.1 = wde b L s) (hv : -1 ≤ X.2.2.2 ∧ X.2.2.2 ≤ 99999) (hr : shR (A 109) W n) (hn : 0 < n) (hw : swo W n) : cres mX11_isStoneHere [vr 103] A F E b W L n 3 (rnu b W L 3 1 0 X nf) := by
  have pw := m_passWord (E := E) tm h8 s0.1 s0.2
  have wb := wde_b (b := b) s0.2
  rw [← hx] at pw wb
  have tm1 : TM A (fF F 8 X.1) b L := TM_f tm (by omega)
  have wk := swo_k hw
  have r1 : A 109 1 = W 0 := hr.2.1
  have sq := sq_b wk.1.1 wk.1.2
  have lc := m_lastCell (A := A) (F := fF F 8 X.1) (E := E) (by rw [r1]; exact wk.1)
  rw [r1] at lc
  have e1 : (if (3 : Int) = 0 then (2 : Int) else 0) = 0 := rfl
  have e2 : smo W 3 ((0 : Nat) : Int) = W 0 * W 0 - 1 := rfl
  obtain ⟨F', n1, ⟨v, u1, u2, u3, u4, u5, u5', u6⟩ | ⟨u1, u2, u3⟩⟩ := m_nst (E := E) (W := W) (nf := nf) (c := 3) (m := 0) (k := 0) (X := X) tm1 (by rw [fF_n (by omega)]; exact h9) (by omega) (plc_i fF_s (by omega))
  · rw [e1, e2] at u4
    rw [e1] at u1
    rw [e2] at u2
    have pl := t_pl (b := b) (L := L) (p := X.1) (va := X.2.2.2) (by omega) hv
    obtain ⟨i, hi⟩ : ∃ i : Nat, v = (i : Int) := ⟨v.toNat, by omega⟩
    have x9 : (109 + v).toNat = 109 + i := by omega
    refine ⟨aup A 109 (fup (A 109) (109 + i) 1), F', sfr_t (sfr_f (Or.inl rfl)) (sfr_t (sfr_n n1) sfr_a), by rw [n1.2 14 (by omega) (by omega) (by omega), fF_n (by omega)], Or.inl ?_⟩
    rw [u3, rnu]
    dsimp only
    refine ⟨rfl, ?_, u6, plc_i u5 pl.1, fun j hj => ?_, ?_⟩
    · simp (disch := omega) only [eX11_isStoneHere, sX11_isStoneHere_0, sX11_isStoneHere_1, sX11_isStoneHere_4, sX11_isStoneHere_5, sX11_isStoneHere_6, sX11_isStoneHere_7, sX11_isStoneHere_10, sX11_isStoneHere_13, sX11_isStoneHere_16, sX11_isStoneHere_17, sX11_isStoneHere_18, sX11_isStoneHere_19, sX11_isStoneHere_22, sX11_isStoneHere_24, sX11_isStoneHere_25, sX11_isStoneHere_28, sX11_isStoneHere_29, sX11_isStoneHere_30, sX11_isStoneHere_31, sX11_isStoneHere_32, ↓hk103, ↓hf103_7, ↓hf103_10, ↓hs109, u5', ↓bndv_at pw, ↓bndi_at lc, ↓bndi_at u4, i32_of, x9, ↓if_pos, ↓if_neg, ↓reduceIte, or_true]
    · have : j = 0 := by unfold smn at hj; simp at hj; exact hj
      subst this
      rw [e1, e2, fup_s]
      exact ⟨u1, u2⟩
    · obtain ⟨a1, a2, a3, a4, a5, a6, a7⟩ := hr
      rw [aup_s]
      unfold stk
      rw [if_neg (by omega), if_neg (by omega), if_neg (by omega), fup_s, show (11 + v).toNat = 11 + i by omega]
      refine ⟨by rw [fup_n (by omega), a1, if_neg (by omega), if_neg (by omega)], by rw [fup_n (by omega), fup_n (by omega)]; exact a2, by rw [fup_n (by omega), fup_n (by omega)]; exact a3, fun e he => ?_, fun e he => ?_, fun e he => ?_, fun g hg => ?_⟩
      · simp (disch := omega) only [fup_n]; exact a4 e he
      · simp (disch := omega) only [fup_n]; exact a5 e he
      · by_cases y : e = i
        · subst y; rw [fup_s, fup_s]
        · rw [fup_n (by omega), fup_n (by omega)]; exact a6 e he
      · simp (disch := omega) only [fup_n]; exact a7 g hg
  · rw [e1, e2] at u1
    refine ⟨A, F', sfr_t (sfr_f (Or.inl rfl)) (sfr_n n1), by rw [n1.2 14 (by omega) (by omega) (by omega), fF_n (by omega)], Or.inr ⟨u2, ?_, u3⟩⟩
    simp (disch := omega) only [eX11_isStoneHere, sX11_isStoneHere_0, sX11_isStoneHere_1, sX11_isStoneHere_4, sX11_isStoneHere_5, sX11_isStoneHere_6, sX11_isStoneHere_7, sX11_isStoneHere_10, sX11_isStoneHere_13, sX11_isStoneHere_16, sX11_isStoneHere_17, sX11_isStoneHere_18, sX11_isStoneHere_19, sX11_isStoneHere_22, sX11_isStoneHere_24, sX11_isStoneHere_25, sX11_isStoneHere_28, sX11_isStoneHere_29, sX11_isStoneHere_30, sX11_isStoneHere_31, sX11_isStoneHere_32, ↓hk103, ↓bndv_at pw, ↓bndi_at lc, ↓bndi_at u1, ↓if_pos, ↓if_neg, ↓reduceIte, true_or]
theorem c_join (tm : TM A F b L) (h8 : F 103 8 = s) (h9 : F 103 9 = 0) (s0 : 0 ≤ s ∧ s ≤ L) (hx : X.1 = wde b L s) (hv : -1 ≤ X.2.2.2 ∧ X.2.2.2 ≤ 99999) (hr : shR (A 109) W n) (hn : 0 < n) : cres mX11_isJoinHere [vr 103] A F E b W L n 2 (rnu b W L 2 3 0 X nf) := by
  have pw := m_passWord (E := E) tm h8 s0.1 s0.2
  have wb := wde_b (b := b) s0.2
  rw [← hx] at pw wb
  have tm1 : TM A (fF F 8 X.1) b L := TM_f tm (by omega)
  have e1 : (if (2 : Int) = 0 then (2 : Int) else 0) = 0 := rfl
  have e2 : smo W 2 ((0 : Nat) : Int) = 3 := rfl
  have e3 : smo W 2 ((0 + 1 : Nat) : Int) = 3 := rfl
  have e4 : smo W 2 ((0 + 1 + 1 : Nat) : Int) = 9 := rfl
  obtain ⟨F1, n1, ⟨v, u1, u2, u3, u4, u5, u5', u6⟩ | ⟨u1, u2, u3⟩⟩ := m_nst (E := E) (W := W) (nf := nf) (c := 2) (m := 2) (k := 0) (X := X) tm1 (by rw [fF_n (by omega)]; exact h9) (by omega) (plc_i fF_s (by omega))
  · rw [e1, e2] at u4
    rw [e1] at u1
    rw [e2] at u2
    rw [u3]
    have pl := t_pl (b := b) (L := L) (p := X.1) (va := X.2.2.2) (by omega) hv
    obtain ⟨i, hi⟩ : ∃ i : Nat, v = (i : Int) := ⟨v.toNat, by omega⟩
    generalize tnx b L X.1 X.2.2.2 = X2 at *
    obtain ⟨F2, n2, ⟨v2, w1, w2, w3, w4, w5, w6⟩ | ⟨w1, w2, w3⟩⟩ := m_cst (E := E) (ce := 105 + v) (W := W) (nf := fup nf 0 v) (c := 2) (m := 1) (k := 0 + 1) (X := X2) (TM_n tm1 n1) u6 pl.1 (plc_i u5 pl.1) (by omega)
    · rw [e1, e3] at w4
      rw [e1] at w1
      rw [e3] at w2
      rw [w3]
      have pl2 := t_pl (b := b) (L := L) (p := X2.1) (va := X2.2.2.2) pl.1 pl.2
      generalize tnx b L X2.1 X2.2.2.2 = X3 at *
      obtain ⟨F3, n3, ⟨v3, y1, y2, y3, y4, y5, y6⟩ | ⟨y1, y2, y3⟩⟩ := m_cst (A := aup A 109 (fup (A 109) (105 + v).toNat v2)) (E := E) (ce := 86 + v) (W := W) (nf := fup (fup nf 0 v) (0 + 1) v2) (c := 2) (m := 0) (k := 0 + 1 + 1) (X := X3) (TM_a (TM_n (TM_n tm1 n1) n2) (aup_n (by omega))) w6 pl2.1 (plc_i w5 pl2.1) (by omega)
      · rw [e1, e4] at y4
        rw [e1] at y1
        rw [e4] at y2
        rw [aup_aup, aup_s] at y4
        have pl3 := t_pl (b := b) (L := L) (p := X3.1) (va := X3.2.2.2) pl2.1 pl2.2
        refine ⟨aup A 109 (fup (fup (A 109) (105 + v).toNat v2) (86 + v).toNat v3), F3, sfr_t (sfr_f (Or.inl rfl)) (sfr_t (sfr_n (nfr_t (nfr_t n1 n2) n3)) sfr_a), by rw [n3.2 14 (by omega) (by omega) (by omega), n2.2 14 (by omega) (by omega) (by omega), n1.2 14 (by omega) (by omega) (by omega), fF_n (by omega)], Or.inl ?_⟩
        rw [y3, rnu]
        dsimp only
        refine ⟨rfl, ?_, y6, plc_i y5 pl3.1, fun j hj => ?_, ?_⟩
        · simp (disch := omega) only [eX11_isJoinHere, sX11_isJoinHere_0, sX11_isJoinHere_1, sX11_isJoinHere_4, sX11_isJoinHere_5, sX11_isJoinHere_6, sX11_isJoinHere_7, sX11_isJoinHere_10, sX11_isJoinHere_13, sX11_isJoinHere_14, sX11_isJoinHere_15, sX11_isJoinHere_16, sX11_isJoinHere_19, sX11_isJoinHere_20, sX11_isJoinHere_21, sX11_isJoinHere_23, sX11_isJoinHere_24, sX11_isJoinHere_25, sX11_isJoinHere_26, sX11_isJoinHere_27, sX11_isJoinHere_30, sX11_isJoinHere_33, sX11_isJoinHere_34, sX11_isJoinHere_36, sX11_isJoinHere_37, sX11_isJoinHere_38, sX11_isJoinHere_39, sX11_isJoinHere_41, sX11_isJoinHere_44, sX11_isJoinHere_47, sX11_isJoinHere_48, sX11_isJoinHere_51, sX11_isJoinHere_52, ↓hk103, ↓hf103_10, u5', ↓bndv_at pw, ↓bndi_at u4, ↓bndi_at w4, ↓bndi_at y4, i32_of, ↓if_pos, ↓if_neg, ↓reduceIte, or_true]
        · have : j = 0 ∨ j = 1 ∨ j = 2 := by unfold smn at hj; simp at hj; omega
          rcases this with rfl | rfl | rfl
          · rw [e1, e2, fup_n (by omega), fup_n (by omega), fup_s]; exact ⟨u1, u2⟩
          · rw [e1, show smo W 2 ((1 : Nat) : Int) = 3 from rfl, fup_n (by omega), fup_s]; exact ⟨w1, w2⟩
          · rw [e1, show smo W 2 ((2 : Nat) : Int) = 9 from rfl, fup_s]; exact ⟨y1, y2⟩
        · obtain ⟨a1, a2, a3, a4, a5, a6, a7⟩ := hr
          rw [aup_s]
          unfold stk
          have q0 : fup (fup (fup nf 0 v) (0 + 1) v2) (0 + 1 + 1) v3 0 = v := by rw [fup_n (by omega), fup_n (by omega), fup_s]
          have q1 : fup (fup (fup nf 0 v) (0 + 1) v2) (0 + 1 + 1) v3 1 = v2 := by rw [fup_n (by omega), fup_s]
          have q3 : fup (fup (fup nf 0 v) (0 + 1) v2) (0 + 1 + 1) v3 2 = v3 := by rw [fup_s]
          rw [if_neg (by omega), if_neg (by omega), if_pos rfl, q0, q1, q3, show (3 + v).toNat = 3 + i by omega, show (7 + v).toNat = 7 + i by omega, show (105 + v).toNat = 105 + i by omega, show (86 + v).toNat = 86 + i by omega]
          refine ⟨?_, ?_, ?_, fun e he => ?_, fun e he => ?_, fun e he => ?_, fun g hg => ?_⟩
          · simp (disch := omega) only [fup_n]; rw [a1, if_neg (by omega), if_neg (by omega)]
          · simp (disch := omega) only [fup_n]; exact a2
          · simp (disch := omega) only [fup_n]; exact a3
          · rw [fup_n (by omega)]
            by_cases y : e = i
            · subst y; rw [fup_s, fup_n (by omega), fup_s]
            · rw [fup_n (by omega), fup_n (by omega), fup_n (by omega)]; exact a4 e he
          · by_cases y : e = i
            · subst y; rw [fup_s, fup_s]
            · simp (disch := omega) only [fup_n]; exact a5 e he
          · simp (disch := omega) only [fup_n]; exact a6 e he
          · simp (disch := omega) only [fup_n]; exact a7 g hg
      · rw [e1, e4] at y1
        refine ⟨aup A 109 (fup (A 109) (105 + v).toNat v2), F3, sfr_t (sfr_f (Or.inl rfl)) (sfr_t (sfr_n (nfr_t (nfr_t n1 n2) n3)) sfr_a), by rw [n3.2 14 (by omega) (by omega) (by omega), n2.2 14 (by omega) (by omega) (by omega), n1.2 14 (by omega) (by omega) (by omega), fF_n (by omega)], Or.inr ⟨y2, ?_, y3⟩⟩
        simp (disch := omega) only [eX11_isJoinHere, sX11_isJoinHere_0, sX11_isJoinHere_1, sX11_isJoinHere_4, sX11_isJoinHere_5, sX11_isJoinHere_6, sX11_isJoinHere_7, sX11_isJoinHere_10, sX11_isJoinHere_13, sX11_isJoinHere_14, sX11_isJoinHere_15, sX11_isJoinHere_16, sX11_isJoinHere_19, sX11_isJoinHere_20, sX11_isJoinHere_21, sX11_isJoinHere_23, sX11_isJoinHere_24, sX11_isJoinHere_25, sX11_isJoinHere_26, sX11_isJoinHere_27, sX11_isJoinHere_30, sX11_isJoinHere_33, sX11_isJoinHere_34, sX11_isJoinHere_36, sX11_isJoinHere_37, sX11_isJoinHere_38, sX11_isJoinHere_39, sX11_isJoinHere_41, sX11_isJoinHere_44, sX11_isJoinHere_47, sX11_isJoinHere_48, sX11_isJoinHere_51, sX11_isJoinHere_52, ↓hk103, ↓hf103_10, u5', ↓bndv_at pw, ↓bndi_at u4, ↓bndi_at w4, ↓bndi_at y1, i32_of, ↓if_pos, ↓if_neg, ↓reduceIte, true_or]
    · rw [e1, e3] at w1
      refine ⟨A, F2, sfr_t (sfr_f (Or.inl rfl)) (sfr_n (nfr_t n1 n2)), by rw [n2.2 14 (by omega) (by omega) (by omega), n1.2 14 (by omega) (by omega) (by omega), fF_n (by omega)], Or.inr ⟨w2, ?_, w3⟩⟩
      simp (disch := omega) only [eX11_isJoinHere, sX11_isJoinHere_0, sX11_isJoinHere_1, sX11_isJoinHere_4, sX11_isJoinHere_5, sX11_isJoinHere_6, sX11_isJoinHere_7, sX11_isJoinHere_10, sX11_isJoinHere_13, sX11_isJoinHere_14, sX11_isJoinHere_15, sX11_isJoinHere_16, sX11_isJoinHere_19, sX11_isJoinHere_20, sX11_isJoinHere_21, sX11_isJoinHere_23, sX11_isJoinHere_24, sX11_isJoinHere_25, sX11_isJoinHere_26, sX11_isJoinHere_27, sX11_isJoinHere_30, sX11_isJoinHere_33, sX11_isJoinHere_34, sX11_isJoinHere_36, sX11_isJoinHere_37, sX11_isJoinHere_38, sX11_isJoinHere_39, sX11_isJoinHere_41, sX11_isJoinHere_44, sX11_isJoinHere_47, sX11_isJoinHere_48, sX11_isJoinHere_51, sX11_isJoinHere_52, ↓hk103, ↓hf103_10, u5', ↓bndv_at pw, ↓bndi_at u4, ↓bndi_at w1, i32_of, ↓if_pos, ↓if_neg, ↓reduceIte, true_or]
  · rw [e1, e2] at u1
    refine ⟨A, F1, sfr_t (sfr_f (Or.inl rfl)) (sfr_n n1), by rw [n1.2 14 (by omega) (by omega) (by omega), fF_n (by omega)], Or.inr ⟨u2, ?_, u3⟩⟩
    simp (disch := omega) only [eX11_isJoinHere, sX11_isJoinHere_0, sX11_isJoinHere_1, sX11_isJoinHere_4, sX11_isJoinHere_5, sX11_isJoinHere_6, sX11_isJoinHere_7, sX11_isJoinHere_10, sX11_isJoinHere_13, sX11_isJoinHere_14, sX11_isJoinHere_15, sX11_isJoinHere_16, sX11_isJoinHere_19, sX11_isJoinHere_20, sX11_isJoinHere_21, sX11_isJoinHere_23, sX11_isJoinHere_24, sX11_isJoinHere_25, sX11_isJoinHere_26, sX11_isJoinHere_27, sX11_isJoinHere_30, sX11_isJoinHere_33, sX11_isJoinHere_34, sX11_isJoinHere_36, sX11_isJoinHere_37, sX11_isJoinHere_38, sX11_isJoinHere_39, sX11_isJoinHere_41, sX11_isJoinHere_44, sX11_isJoinHere_47, sX11_isJoinHere_48, sX11_isJoinHere_51, sX11_isJoinHere_52, ↓hk103, ↓bndv_at pw, ↓bndi_at u1, ↓if_pos, ↓if_neg, ↓reduceIte, true_or]
theorem c_goer (tm : TM A F b L) (h8 : F 103 8 = s) (h9 : F 103 9 = 0) (s0 : 0 ≤ s ∧ s ≤ L) (hx : X.1 = wde b L s) (hv : -1 ≤ X.2.2.2 ∧ X.2.2.2 ≤ 99999) (hr : shR (A 109) W n) (hn : 0 < n) (hw : swo W n) (g5 : W 1 < 5) : cres mX11_isGoerHere [vr 103, vi s] A F E b W L n 1 (rnu b W L 1 3 0 X nf) := by
  have pw := m_passWord (E := E) tm h8 s0.1 s0.2
  have wb := wde_b (b := b) s0.2
  rw [← hx] at pw wb
  have tm1 : TM A (fF F 8 X.1) b L := TM_f tm (by omega)
  have wk := swo_k hw
  have wk1 : 0 ≤ W 1 ∧ W 1 ≤ 5 := wk.2
  have r1 : A 109 1 = W 0 := hr.2.1
  have r2 : A 109 2 = W 1 := hr.2.2.1
  have sq := sq_b wk.1.1 wk.1.2
  have lc := m_lastCell (A := A) (F := fF F 8 X.1) (E := E) (by rw [r1]; exact wk.1)
  rw [r1] at lc
  have e1 : (if (1 : Int) = 0 then (2 : Int) else 0) = 0 := rfl
  have e2 : smo W 1 ((0 : Nat) : Int) = W 0 * W 0 - 1 := rfl
  have e3 : smo W 1 ((0 + 1 : Nat) : Int) = 3 := rfl
  have e4 : smo W 1 ((0 + 1 + 1 : Nat) : Int) = 60 := rfl
  obtain ⟨i, hi⟩ : ∃ i : Nat, W 1 = (i : Int) := ⟨(W 1).toNat, by omega⟩
  have x0 : (90 + 3 * W 1).toNat = 90 + 3 * i := by omega
  have x1 : (90 + 3 * W 1 + 1).toNat = 91 + 3 * i := by omega
  have x2 : (90 + 3 * W 1 + 2).toNat = 92 + 3 * i := by omega
  obtain ⟨F1, n1, ⟨v, u1, u2, u3, u4, u5, u6⟩ | ⟨u1, u2, u3⟩⟩ := m_cst (E := E) (ce := 90 + 3 * W 1) (W := W) (nf := nf) (c := 1) (m := 2) (k := 0) (X := X) tm1 (by rw [fF_n (by omega)]; exact h9) (by omega) (plc_i fF_s (by omega)) (by omega)
  · rw [e1, e2, x0] at u4
    rw [e1] at u1
    rw [e2] at u2
    rw [u3]
    have pl := t_pl (b := b) (L := L) (p := X.1) (va := X.2.2.2) (by omega) hv
    generalize tnx b L X.1 X.2.2.2 = X2 at *
    obtain ⟨F2, n2, ⟨v2, w1, w2, w3, w4, w5, w6⟩ | ⟨w1, w2, w3⟩⟩ := m_cst (A := aup A 109 (fup (A 109) (90 + 3 * i) v)) (E := E) (ce := 90 + 3 * W 1 + 1) (W := W) (nf := fup nf 0 v) (c := 1) (m := 1) (k := 0 + 1) (X := X2) (TM_a (TM_n tm1 n1) (aup_n (by omega))) u6 pl.1 (plc_i u5 pl.1) (by omega)
    · rw [e1, e3, x1, aup_aup, aup_s] at w4
      rw [e1] at w1
      rw [e3] at w2
      rw [w3]
      have pl2 := t_pl (b := b) (L := L) (p := X2.1) (va := X2.2.2.2) pl.1 pl.2
      generalize tnx b L X2.1 X2.2.2.2 = X3 at *
      obtain ⟨F3, n3, ⟨v3, y1, y2, y3, y4, y5, y6⟩ | ⟨y1, y2, y3⟩⟩ := m_cst (A := aup A 109 (fup (fup (A 109) (90 + 3 * i) v) (91 + 3 * i) v2)) (E := E) (ce := 90 + 3 * W 1 + 2) (W := W) (nf := fup (fup nf 0 v) (0 + 1) v2) (c := 1) (m := 0) (k := 0 + 1 + 1) (X := X3) (TM_a (TM_n (TM_n tm1 n1) n2) (aup_n (by omega))) w6 pl2.1 (plc_i w5 pl2.1) (by omega)
      · rw [e1, e4, x2, aup_aup, aup_s] at y4
        rw [e1] at y1
        rw [e4] at y2
        have pl3 := t_pl (b := b) (L := L) (p := X3.1) (va := X3.2.2.2) pl2.1 pl2.2
        have r2' : fup (fup (fup (A 109) (90 + 3 * i) v) (91 + 3 * i) v2) (92 + 3 * i) v3 2 = W 1 := by simp (disch := omega) only [fup_n]; exact r2
        refine ⟨aup A 109 (fup (fup (fup (fup (A 109) (90 + 3 * i) v) (91 + 3 * i) v2) (92 + 3 * i) v3) 2 (W 1 + 1)), F3, sfr_t (sfr_f (Or.inl rfl)) (sfr_t (sfr_n (nfr_t (nfr_t n1 n2) n3)) sfr_a), by rw [n3.2 14 (by omega) (by omega) (by omega), n2.2 14 (by omega) (by omega) (by omega), n1.2 14 (by omega) (by omega) (by omega), fF_n (by omega)], Or.inl ?_⟩
        rw [y3, rnu]
        dsimp only
        refine ⟨rfl, ?_, y6, plc_i y5 pl3.1, fun j hj => ?_, ?_⟩
        · simp (disch := omega) only [eX11_isGoerHere, sX11_isGoerHere_0, sX11_isGoerHere_1, sX11_isGoerHere_4, sX11_isGoerHere_5, sX11_isGoerHere_6, sX11_isGoerHere_7, sX11_isGoerHere_10, sX11_isGoerHere_11, sX11_isGoerHere_12, sX11_isGoerHere_13, sX11_isGoerHere_16, sX11_isGoerHere_17, sX11_isGoerHere_18, sX11_isGoerHere_21, sX11_isGoerHere_23, sX11_isGoerHere_24, sX11_isGoerHere_25, sX11_isGoerHere_28, sX11_isGoerHere_29, sX11_isGoerHere_30, sX11_isGoerHere_31, sX11_isGoerHere_32, sX11_isGoerHere_33, sX11_isGoerHere_34, sX11_isGoerHere_35, sX11_isGoerHere_36, sX11_isGoerHere_37, sX11_isGoerHere_40, sX11_isGoerHere_43, sX11_isGoerHere_46, sX11_isGoerHere_47, sX11_isGoerHere_48, sX11_isGoerHere_49, sX11_isGoerHere_50, sX11_isGoerHere_51, sX11_isGoerHere_52, sX11_isGoerHere_55, sX11_isGoerHere_58, sX11_isGoerHere_59, sX11_isGoerHere_60, sX11_isGoerHere_61, sX11_isGoerHere_62, sX11_isGoerHere_63, sX11_isGoerHere_65, sX11_isGoerHere_68, sX11_isGoerHere_71, sX11_isGoerHere_72, sX11_isGoerHere_73, sX11_isGoerHere_74, sX11_isGoerHere_77, sX11_isGoerHere_78, sX11_isGoerHere_79, sX11_isGoerHere_80, sX11_isGoerHere_81, sX11_isGoerHere_82, sX11_isGoerHere_83, sX11_isGoerHere_84, ↓hk103, ↓hf103_7, ↓hg109, ↓hs109, r2, Int.reduceToNat, ↓bndv_at pw, ↓bndi_at lc, ↓bndi_at u4, ↓bndi_at w4, ↓bndi_at y4, i32_of, aup_s, aup_aup, r2', ↓if_pos, ↓if_neg, ↓reduceIte, or_true]
        · have : j = 0 ∨ j = 1 ∨ j = 2 := by unfold smn at hj; simp at hj; omega
          rcases this with rfl | rfl | rfl
          · rw [e1, e2, fup_n (by omega), fup_n (by omega), fup_s]; exact ⟨u1, u2⟩
          · rw [e1, show smo W 1 ((1 : Nat) : Int) = 3 from rfl, fup_n (by omega), fup_s]; exact ⟨w1, w2⟩
          · rw [e1, show smo W 1 ((2 : Nat) : Int) = 60 from rfl, fup_s]; exact ⟨y1, y2⟩
        · obtain ⟨a1, a2, a3, a4, a5, a6, a7⟩ := hr
          rw [aup_s]
          unfold stk
          have q0 : fup (fup (fup nf 0 v) (0 + 1) v2) (0 + 1 + 1) v3 0 = v := by rw [fup_n (by omega), fup_n (by omega), fup_s]
          have q1 : fup (fup (fup nf 0 v) (0 + 1) v2) (0 + 1 + 1) v3 1 = v2 := by rw [fup_n (by omega), fup_s]
          have q3 : fup (fup (fup nf 0 v) (0 + 1) v2) (0 + 1 + 1) v3 2 = v3 := by rw [fup_s]
          rw [if_neg (by omega), if_pos rfl, q0, q1, q3, show (W 1).toNat = i by omega]
          refine ⟨?_, ?_, ?_, fun e he => ?_, fun e he => ?_, fun e he => ?_, fun g hg => ?_⟩
          · simp (disch := omega) only [fup_n]; rw [a1, if_neg (by omega), if_neg (by omega)]
          · simp (disch := omega) only [fup_n]; exact a2
          · rw [fup_s, fup_s]
          · simp (disch := omega) only [fup_n]; exact a4 e he
          · simp (disch := omega) only [fup_n]; exact a5 e he
          · simp (disch := omega) only [fup_n]; exact a6 e he
          · by_cases y : g = i
            · subst y; simp (disch := omega) only [fup_n, fup_s]; exact ⟨by trivial, by trivial, by trivial⟩
            · simp (disch := omega) only [fup_n]; exact a7 g hg
      · rw [e1, e4] at y1
        refine ⟨aup A 109 (fup (fup (A 109) (90 + 3 * i) v) (91 + 3 * i) v2), F3, sfr_t (sfr_f (Or.inl rfl)) (sfr_t (sfr_n (nfr_t (nfr_t n1 n2) n3)) sfr_a), by rw [n3.2 14 (by omega) (by omega) (by omega), n2.2 14 (by omega) (by omega) (by omega), n1.2 14 (by omega) (by omega) (by omega), fF_n (by omega)], Or.inr ⟨y2, ?_, y3⟩⟩
        simp (disch := omega) only [eX11_isGoerHere, sX11_isGoerHere_0, sX11_isGoerHere_1, sX11_isGoerHere_4, sX11_isGoerHere_5, sX11_isGoerHere_6, sX11_isGoerHere_7, sX11_isGoerHere_10, sX11_isGoerHere_11, sX11_isGoerHere_12, sX11_isGoerHere_13, sX11_isGoerHere_16, sX11_isGoerHere_17, sX11_isGoerHere_18, sX11_isGoerHere_21, sX11_isGoerHere_23, sX11_isGoerHere_24, sX11_isGoerHere_25, sX11_isGoerHere_28, sX11_isGoerHere_29, sX11_isGoerHere_30, sX11_isGoerHere_31, sX11_isGoerHere_32, sX11_isGoerHere_33, sX11_isGoerHere_34, sX11_isGoerHere_35, sX11_isGoerHere_36, sX11_isGoerHere_37, sX11_isGoerHere_40, sX11_isGoerHere_43, sX11_isGoerHere_46, sX11_isGoerHere_47, sX11_isGoerHere_48, sX11_isGoerHere_49, sX11_isGoerHere_50, sX11_isGoerHere_51, sX11_isGoerHere_52, sX11_isGoerHere_55, sX11_isGoerHere_58, sX11_isGoerHere_59, sX11_isGoerHere_60, sX11_isGoerHere_61, sX11_isGoerHere_62, sX11_isGoerHere_63, sX11_isGoerHere_65, sX11_isGoerHere_68, sX11_isGoerHere_71, sX11_isGoerHere_72, sX11_isGoerHere_73, sX11_isGoerHere_74, sX11_isGoerHere_77, sX11_isGoerHere_78, sX11_isGoerHere_79, sX11_isGoerHere_80, sX11_isGoerHere_81, sX11_isGoerHere_82, sX11_isGoerHere_83, sX11_isGoerHere_84, ↓hk103, ↓hf103_7, ↓hg109, r2, Int.reduceToNat, ↓bndv_at pw, ↓bndi_at lc, ↓bndi_at u4, ↓bndi_at w4, ↓bndi_at y1, i32_of, ↓if_pos, ↓if_neg, ↓reduceIte, true_or]
    · rw [e1, e3] at w1
      refine ⟨aup A 109 (fup (A 109) (90 + 3 * i) v), F2, sfr_t (sfr_f (Or.inl rfl)) (sfr_t (sfr_n (nfr_t n1 n2)) sfr_a), by rw [n2.2 14 (by omega) (by omega) (by omega), n1.2 14 (by omega) (by omega) (by omega), fF_n (by omega)], Or.inr ⟨w2, ?_, w3⟩⟩
      simp (disch := omega) only [eX11_isGoerHere, sX11_isGoerHere_0, sX11_isGoerHere_1, sX11_isGoerHere_4, sX11_isGoerHere_5, sX11_isGoerHere_6, sX11_isGoerHere_7, sX11_isGoerHere_10, sX11_isGoerHere_11, sX11_isGoerHere_12, sX11_isGoerHere_13, sX11_isGoerHere_16, sX11_isGoerHere_17, sX11_isGoerHere_18, sX11_isGoerHere_21, sX11_isGoerHere_23, sX11_isGoerHere_24, sX11_isGoerHere_25, sX11_isGoerHere_28, sX11_isGoerHere_29, sX11_isGoerHere_30, sX11_isGoerHere_31, sX11_isGoerHere_32, sX11_isGoerHere_33, sX11_isGoerHere_34, sX11_isGoerHere_35, sX11_isGoerHere_36, sX11_isGoerHere_37, sX11_isGoerHere_40, sX11_isGoerHere_43, sX11_isGoerHere_46, sX11_isGoerHere_47, sX11_isGoerHere_48, sX11_isGoerHere_49, sX11_isGoerHere_50, sX11_isGoerHere_51, sX11_isGoerHere_52, sX11_isGoerHere_55, sX11_isGoerHere_58, sX11_isGoerHere_59, sX11_isGoerHere_60, sX11_isGoerHere_61, sX11_isGoerHere_62, sX11_isGoerHere_63, sX11_isGoerHere_65, sX11_isGoerHere_68, sX11_isGoerHere_71, sX11_isGoerHere_72, sX11_isGoerHere_73, sX11_isGoerHere_74, sX11_isGoerHere_77, sX11_isGoerHere_78, sX11_isGoerHere_79, sX11_isGoerHere_80, sX11_isGoerHere_81, sX11_isGoerHere_82, sX11_isGoerHere_83, sX11_isGoerHere_84, ↓hk103, ↓hf103_7, ↓hg109, r2, Int.reduceToNat, ↓bndv_at pw, ↓bndi_at lc, ↓bndi_at u4, ↓bndi_at w1, i32_of, ↓if_pos, ↓if_neg, ↓reduceIte, true_or]
  · rw [e1, e2] at u1
    refine ⟨A, F1, sfr_t (sfr_f (Or.inl rfl)) (sfr_n n1), by rw [n1.2 14 (by omega) (by omega) (by omega), fF_n (by omega)], Or.inr ⟨u2, ?_, u3⟩⟩
    simp (disch := omega) only [eX11_isGoerHere, sX11_isGoerHere_0, sX11_isGoerHere_1, sX11_isGoerHere_4, sX11_isGoerHere_5, sX11_isGoerHere_6, sX11_isGoerHere_7, sX11_isGoerHere_10, sX11_isGoerHere_11, sX11_isGoerHere_12, sX11_isGoerHere_13, sX11_isGoerHere_16, sX11_isGoerHere_17, sX11_isGoerHere_18, sX11_isGoerHere_21, sX11_isGoerHere_23, sX11_isGoerHere_24, sX11_isGoerHere_25, sX11_isGoerHere_28, sX11_isGoerHere_29, sX11_isGoerHere_30, sX11_isGoerHere_31, sX11_isGoerHere_32, sX11_isGoerHere_33, sX11_isGoerHere_34, sX11_isGoerHere_35, sX11_isGoerHere_36, sX11_isGoerHere_37, sX11_isGoerHere_40, sX11_isGoerHere_43, sX11_isGoerHere_46, sX11_isGoerHere_47, sX11_isGoerHere_48, sX11_isGoerHere_49, sX11_isGoerHere_50, sX11_isGoerHere_51, sX11_isGoerHere_52, sX11_isGoerHere_55, sX11_isGoerHere_58, sX11_isGoerHere_59, sX11_isGoerHere_60, sX11_isGoerHere_61, sX11_isGoerHere_62, sX11_isGoerHere_63, sX11_isGoerHere_65, sX11_isGoerHere_68, sX11_isGoerHere_71, sX11_isGoerHere_72, sX11_isGoerHere_73, sX11_isGoerHere_74, sX11_isGoerHere_77, sX11_isGoerHere_78, sX11_isGoerHere_79, sX11_isGoerHere_80, sX11_isGoerHere_81, sX11_isGoerHere_82, sX11_isGoerHere_83, sX11_isGoerHere_84, ↓hk103, ↓hf103_7, ↓hg109, r2, Int.reduceToNat, ↓bndv_at pw, ↓bndi_at lc, ↓bndi_at u1, i32_of, ↓if_pos, ↓if_neg, ↓reduceIte, true_or]
end SC
