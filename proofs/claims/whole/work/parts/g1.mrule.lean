/-! a rule's clauses in the model and in the class, all -/
section RL
variable {A F : Nat → Nat → Int} {E : zE} {b : Nat → Int} {L : Int} {t : Nat} {σ : zS} {K : zK}
theorem m_rclause (ht : t < 6) (rt : RT A t K) (hK : K.length ≤ 12) (tm : TM A F b L) (h9 : F 103 9 = 0) (h11 : F 103 11 = (t : Int)) (h12 : F 103 12 = σ.2.2.2.2 6) (h14 : F 103 14 = (K.length : Int)) (pc : plc F b L σ.1) (hO : σ.2.2.1 = Ofl K) (hW : σ.2.2.2.1 = []) (ck : cok L σ) (v4 : σ.2.2.2.2 4 = 0) (v5 : σ.2.2.2.2 5 = (K.length : Int)) : ∃ A' F', rfR A F A' F' t ∧ ((∃ n ρ C lag S ot, crn b L n σ ρ ∧ cl mX11_clauseHere [vr 103] (HP A F E) = some (vi 1, HP A' F' E) ∧ RT A' t ((S, ot) :: K) ∧ TM A' F' b L ∧ plc F' b L ρ.1 ∧ F' 103 9 = 0 ∧ F' 103 12 = ρ.2.2.2.2 6 ∧ CE b L ρ lag C (Ofl K) ot ∧ lag.reverse ++ C = mof (S, ot) ∧ ρ.2.2.2.2 5 = (K.length : Int) + 1 ∧ F' 103 14 = (K.length : Int) + 1 ∧ K.length < 12) ∨ (flt b L σ F' ∧ cl mX11_clauseHere [vr 103] (HP A F E) = some (vi 0, HP A' F' E))) := by
  have hb := tm.2.2.1
  have L4 := tm.2.1
  have cx := ck.2.1
  have kb := sk_b (b := b) cx.2
  have si := sk_id (b := b) (L := L) cx.1 cx.2
  have se := m_see (E := E) tm rfl pc.1.1 pc.1.2
  have ts : (tkx b L σ).2.1 = sk b L σ.1 := (tnx_c (va := σ.2.1) hb cx.1 cx.2).1
  rw [pc.2] at se
  have tr : tkr b L σ = tkTurn b L (sk b L σ.1) σ.2.2.1 σ.2.2.2.1 σ.2.2.2.2 := by
    unfold tkr tkS
    rw [if_pos v4, ts]
  have tw := fun (y : wdH b L (sk b L σ.1) 1953854062 = true) => tkx_wd (va := σ.2.1) hb cx y
  have ex : tnx b L σ.1 σ.2.1 = tkx b L σ := rfl
  rw [ex] at tw
  generalize hs : sk b L σ.1 = s at *
  have s0 : 0 ≤ s ∧ s ≤ L := by omega
  have tm1 : TM A (fF F 8 s) b L := TM_f tm (by omega)
  have e9 : fF F 8 s 103 9 = 0 := by rw [fF_n (by omega)]; exact h9
  have e11 : fF F 8 s 103 11 = (t : Int) := by rw [fF_n (by omega)]; exact h11
  have e12 : fF F 8 s 103 12 = σ.2.2.2.2 6 := by rw [fF_n (by omega)]; exact h12
  have e14 : fF F 8 s 103 14 = (K.length : Int) := by rw [fF_n (by omega)]; exact h14
  have e8 : fF F 8 s 103 8 = s := fF_s
  have iw := iw_s (E := E) (w := 1953854062) tm1 e8 s0 si
  by_cases y : wdH b L s 1953854062 = true
  · rw [if_pos y] at iw
    have tT : tkT b L s = 0 := by unfold tkT; rw [if_pos y]
    by_cases n4 : K.length = 12
    · have fl := m_fails (A := A) (E := E) (k := 4) (at' := s) e9 (by omega) (by omega)
      refine ⟨A, fF (fF F 8 s) 9 (1 + 8 * s + 4), rfR_t (rfR_f (Or.inl rfl)) (rfR_f (Or.inr (Or.inl rfl))), Or.inr ⟨⟨0, σ, rfl, ?_, ?_⟩, ?_⟩⟩
      · rw [tr]; unfold tkTurn; rw [if_neg (by omega), if_neg (by omega)]; dsimp only; omega
      · rw [tr, ts, fF_s]; unfold tkTurn; rw [if_neg (by omega), if_neg (by omega)]
      · simp (disch := omega) only [eX11_clauseHere, sX11_clauseHere_0, sX11_clauseHere_1, sX11_clauseHere_4, sX11_clauseHere_5, sX11_clauseHere_6, sX11_clauseHere_9, sX11_clauseHere_10, sX11_clauseHere_11, sX11_clauseHere_14, sX11_clauseHere_16, sX11_clauseHere_19, sX11_clauseHere_20, sX11_clauseHere_23, sX11_clauseHere_24, sX11_clauseHere_25, sX11_clauseHere_26, sX11_clauseHere_29, sX11_clauseHere_30, sX11_clauseHere_33, sX11_clauseHere_36, sX11_clauseHere_39, sX11_clauseHere_40, sX11_clauseHere_43, sX11_clauseHere_46, sX11_clauseHere_49, sX11_clauseHere_50, sX11_clauseHere_51, sX11_clauseHere_52, sX11_clauseHere_55, sX11_clauseHere_56, sX11_clauseHere_57, sX11_clauseHere_60, sX11_clauseHere_61, sX11_clauseHere_64, sX11_clauseHere_66, sX11_clauseHere_69, sX11_clauseHere_71, sX11_clauseHere_74, sX11_clauseHere_75, sX11_clauseHere_76, sX11_clauseHere_77, sX11_clauseHere_80, sX11_clauseHere_81, sX11_clauseHere_82, sX11_clauseHere_83, sX11_clauseHere_86, sX11_clauseHere_87, sX11_clauseHere_88, sX11_clauseHere_91, sX11_clauseHere_92, sX11_clauseHere_95, sX11_clauseHere_96, sX11_clauseHere_97, sX11_clauseHere_100, sX11_clauseHere_103, sX11_clauseHere_104, sX11_clauseHere_107, ↓hk103, ↓hf103_8, ↓hf103_11, ↓hf103_14, ↓bndi_at se, e8, e11, e14, ↓bndi_at iw, ↓bndi_at fl, ↓if_pos, ↓if_neg, ↓reduceIte, true_or, not_true_eq_false]
    · have tr2 : tkr b L σ = (-1, σ.2.2.1, σ.2.2.2.1, fup (fup (fup σ.2.2.2.2 5 (σ.2.2.2.2 5 + 1)) 9 0) 4 1) := by
        rw [tr]; unfold tkTurn; rw [if_neg (by omega), if_pos (by omega)]
      have w1 : (tkr b L σ).1 = -1 := by rw [tr2]
      have ck3 := nxs_ok hb ck w1
      have rc1 := crn_1 w1 (by rw [(tw y).1]; omega)
      have b1 : (nxs b L σ).1 = wde b L s := (tw y).2
      have b3 : (nxs b L σ).2.2.1 = Ofl K := by show (tkr b L σ).2.1 = _; rw [tr2]; exact hO
      have b4 : (nxs b L σ).2.2.2.1 = [] := by show (tkr b L σ).2.2.1 = _; rw [tr2]; exact hW
      have b5 : (nxs b L σ).2.2.2.2 = fup (fup (fup σ.2.2.2.2 5 (σ.2.2.2.2 5 + 1)) 9 0) 4 1 := by show (tkr b L σ).2.2.2 = _; rw [tr2]
      generalize nxs b L σ = τ1 at *
      have tm2 : TM A (fF (fF F 8 s) 14 ((K.length : Int) + 1)) b L := TM_f tm1 (by omega)
      have g8 : fF (fF F 8 s) 14 ((K.length : Int) + 1) 103 8 = s := by rw [fF_n (by omega)]; exact e8
      have g9 : fF (fF F 8 s) 14 ((K.length : Int) + 1) 103 9 = 0 := by rw [fF_n (by omega)]; exact e9
      have g11 : fF (fF F 8 s) 14 ((K.length : Int) + 1) 103 11 = (t : Int) := by rw [fF_n (by omega)]; exact e11
      have g12 : fF (fF F 8 s) 14 ((K.length : Int) + 1) 103 12 = τ1.2.2.2.2 6 := by rw [fF_n (by omega), b5, fup_n (by omega), fup_n (by omega), fup_n (by omega)]; exact e12
      have g14 : fF (fF F 8 s) 14 ((K.length : Int) + 1) 103 14 = (K.length : Int) + 1 := fF_s
      have q5 : τ1.2.2.2.2 5 = (K.length : Int) + 1 := by rw [b5, fup_n (by omega), fup_n (by omega), fup_s]; omega
      have pt : ∀ L st, rn mX11_clauseHere 91 L st (HP A (aup (fF F 8 s) 103 (fup (fF F 8 s 103) 14 ((K.length : Int) + 1))) E) = rn mX11_clauseHere 91 L st (HP A (fF (fF F 8 s) 14 ((K.length : Int) + 1)) E) := fun _ _ => rfl
      have pre : ∀ r H, (r = 0 ∨ r = 1) → cl mX11_isTurnHere [vr 103] (HP A (fF (fF F 8 s) 14 ((K.length : Int) + 1)) E) = some (vi r, H) → cl mX11_clauseHere [vr 103] (HP A F E) = some (vi r, H) := by
        intro r H hr' e
        simp (disch := omega) only [eX11_clauseHere, sX11_clauseHere_0, sX11_clauseHere_1, sX11_clauseHere_4, sX11_clauseHere_5, sX11_clauseHere_6, sX11_clauseHere_9, sX11_clauseHere_10, sX11_clauseHere_11, sX11_clauseHere_14, sX11_clauseHere_16, sX11_clauseHere_19, sX11_clauseHere_20, sX11_clauseHere_23, sX11_clauseHere_24, sX11_clauseHere_25, sX11_clauseHere_26, sX11_clauseHere_29, sX11_clauseHere_30, sX11_clauseHere_33, sX11_clauseHere_36, sX11_clauseHere_39, sX11_clauseHere_40, sX11_clauseHere_43, sX11_clauseHere_46, sX11_clauseHere_49, sX11_clauseHere_50, sX11_clauseHere_51, sX11_clauseHere_52, sX11_clauseHere_55, sX11_clauseHere_56, sX11_clauseHere_57, sX11_clauseHere_60, sX11_clauseHere_61, sX11_clauseHere_64, sX11_clauseHere_66, sX11_clauseHere_69, sX11_clauseHere_71, sX11_clauseHere_74, sX11_clauseHere_75, sX11_clauseHere_76, sX11_clauseHere_77, sX11_clauseHere_80, sX11_clauseHere_81, sX11_clauseHere_82, sX11_clauseHere_83, sX11_clauseHere_86, sX11_clauseHere_87, sX11_clauseHere_88, sX11_clauseHere_92, sX11_clauseHere_95, sX11_clauseHere_96, sX11_clauseHere_97, sX11_clauseHere_100, sX11_clauseHere_103, sX11_clauseHere_104, sX11_clauseHere_107, ↓hk103, ↓hf103_8, ↓hf103_11, ↓hf103_14, ↓hp103_14, ↓bndi_at se, e8, e11, e14, ↓bndi_at iw, i32_of, ↓if_pos, ↓if_neg, not_true_eq_false, ↓reduceIte]
        rw [pt]
        rcases hr' with rfl | rfl
        · simp (disch := omega) only [eX11_clauseHere, sX11_clauseHere_0, sX11_clauseHere_1, sX11_clauseHere_4, sX11_clauseHere_5, sX11_clauseHere_6, sX11_clauseHere_9, sX11_clauseHere_10, sX11_clauseHere_11, sX11_clauseHere_14, sX11_clauseHere_16, sX11_clauseHere_19, sX11_clauseHere_20, sX11_clauseHere_23, sX11_clauseHere_24, sX11_clauseHere_25, sX11_clauseHere_26, sX11_clauseHere_29, sX11_clauseHere_30, sX11_clauseHere_33, sX11_clauseHere_36, sX11_clauseHere_39, sX11_clauseHere_40, sX11_clauseHere_43, sX11_clauseHere_46, sX11_clauseHere_49, sX11_clauseHere_50, sX11_clauseHere_51, sX11_clauseHere_52, sX11_clauseHere_55, sX11_clauseHere_56, sX11_clauseHere_57, sX11_clauseHere_60, sX11_clauseHere_61, sX11_clauseHere_64, sX11_clauseHere_66, sX11_clauseHere_69, sX11_clauseHere_71, sX11_clauseHere_74, sX11_clauseHere_75, sX11_clauseHere_76, sX11_clauseHere_77, sX11_clauseHere_80, sX11_clauseHere_81, sX11_clauseHere_82, sX11_clauseHere_83, sX11_clauseHere_86, sX11_clauseHere_87, sX11_clauseHere_88, sX11_clauseHere_91, sX11_clauseHere_92, sX11_clauseHere_95, sX11_clauseHere_96, sX11_clauseHere_97, sX11_clauseHere_100, sX11_clauseHere_103, sX11_clauseHere_104, sX11_clauseHere_107, ↓hk103, ↓bndi_at e, ↓if_pos, ↓if_neg, ↓reduceIte, true_or]
        · simp (disch := omega) only [eX11_clauseHere, sX11_clauseHere_0, sX11_clauseHere_1, sX11_clauseHere_4, sX11_clauseHere_5, sX11_clauseHere_6, sX11_clauseHere_9, sX11_clauseHere_10, sX11_clauseHere_11, sX11_clauseHere_14, sX11_clauseHere_16, sX11_clauseHere_19, sX11_clauseHere_20, sX11_clauseHere_23, sX11_clauseHere_24, sX11_clauseHere_25, sX11_clauseHere_26, sX11_clauseHere_29, sX11_clauseHere_30, sX11_clauseHere_33, sX11_clauseHere_36, sX11_clauseHere_39, sX11_clauseHere_40, sX11_clauseHere_43, sX11_clauseHere_46, sX11_clauseHere_49, sX11_clauseHere_50, sX11_clauseHere_51, sX11_clauseHere_52, sX11_clauseHere_55, sX11_clauseHere_56, sX11_clauseHere_57, sX11_clauseHere_60, sX11_clauseHere_61, sX11_clauseHere_64, sX11_clauseHere_66, sX11_clauseHere_69, sX11_clauseHere_71, sX11_clauseHere_74, sX11_clauseHere_75, sX11_clauseHere_76, sX11_clauseHere_77, sX11_clauseHere_80, sX11_clauseHere_81, sX11_clauseHere_82, sX11_clauseHere_83, sX11_clauseHere_86, sX11_clauseHere_87, sX11_clauseHere_88, sX11_clauseHere_91, sX11_clauseHere_92, sX11_clauseHere_95, sX11_clauseHere_96, sX11_clauseHere_97, sX11_clauseHere_100, sX11_clauseHere_103, sX11_clauseHere_104, sX11_clauseHere_107, ↓hk103, ↓bndi_at e, ↓if_pos, ↓if_neg, ↓reduceIte, or_true]
      have fr0 : rfR A F A (fF (fF F 8 s) 14 ((K.length : Int) + 1)) t := rfR_t (rfR_f (Or.inl rfl)) (rfR_f (by omega))
      obtain ⟨A', F', f1, ⟨n, ρ, C, lag, S, ot, c1, c2, c3, c4, c5, c6, c7', c8, c9, c10, c11⟩ | ⟨c1, c2⟩⟩ := m_turn (E := E) (σ := τ1) ht rt (by omega) tm2 g8 s0 b1 g9 g11 g12 b3 b4 ck3.1 (by rw [b5, fup_s]) (by rw [b5, fup_n (by omega), fup_s])
      · exact ⟨A', F', rfR_t fr0 f1, Or.inl ⟨1 + n, ρ, C, lag, S, ot, crn_t 1 n σ τ1 ρ rc1 c1, pre 1 _ (Or.inr rfl) c2, c3, c4, c5, c6, c7', c8, c9, by rw [c10, q5], by rw [c11, g14], by omega⟩⟩
      · exact ⟨A', F', rfR_t fr0 f1, Or.inr ⟨flt_t rc1 c1, pre 0 _ (Or.inl rfl) c2⟩⟩
  · rw [if_neg y] at iw
    have tT : tkT b L s = -1 := by unfold tkT; rw [if_neg y]
    have fl := m_fails (A := A) (E := E) (k := 0) (at' := s) e9 (by omega) (by omega)
    refine ⟨A, fF (fF F 8 s) 9 (1 + 8 * s + 0), rfR_t (rfR_f (Or.inl rfl)) (rfR_f (Or.inr (Or.inl rfl))), Or.inr ⟨⟨0, σ, rfl, ?_, ?_⟩, ?_⟩⟩
    · rw [tr]; unfold tkTurn; rw [if_pos tT]; dsimp only; omega
    · rw [tr, ts, fF_s]; unfold tkTurn; rw [if_pos tT]
    · simp (disch := omega) only [eX11_clauseHere, sX11_clauseHere_0, sX11_clauseHere_1, sX11_clauseHere_4, sX11_clauseHere_5, sX11_clauseHere_6, sX11_clauseHere_9, sX11_clauseHere_10, sX11_clauseHere_11, sX11_clauseHere_14, sX11_clauseHere_16, sX11_clauseHere_19, sX11_clauseHere_20, sX11_clauseHere_23, sX11_clauseHere_24, sX11_clauseHere_25, sX11_clauseHere_26, sX11_clauseHere_29, sX11_clauseHere_30, sX11_clauseHere_33, sX11_clauseHere_36, sX11_clauseHere_39, sX11_clauseHere_40, sX11_clauseHere_43, sX11_clauseHere_46, sX11_clauseHere_49, sX11_clauseHere_50, sX11_clauseHere_51, sX11_clauseHere_52, sX11_clauseHere_55, sX11_clauseHere_56, sX11_clauseHere_57, sX11_clauseHere_60, sX11_clauseHere_61, sX11_clauseHere_64, sX11_clauseHere_66, sX11_clauseHere_69, sX11_clauseHere_71, sX11_clauseHere_74, sX11_clauseHere_75, sX11_clauseHere_76, sX11_clauseHere_77, sX11_clauseHere_80, sX11_clauseHere_81, sX11_clauseHere_82, sX11_clauseHere_83, sX11_clauseHere_86, sX11_clauseHere_87, sX11_clauseHere_88, sX11_clauseHere_91, sX11_clauseHere_92, sX11_clauseHere_95, sX11_clauseHere_96, sX11_clauseHere_97, sX11_clauseHere_100, sX11_clauseHere_103, sX11_clauseHere_104, sX11_clauseHere_107, ↓hk103, ↓hf103_8, ↓hf103_11, ↓bndi_at se, e8, e11, ↓bndi_at iw, ↓bndi_at fl, ↓if_pos, ↓if_neg, ↓reduceIte, true_or, not_true_eq_false]
/-- the class at a clause's end *)-/
theorem ce_end {ρ : zS} {C lag S : List Int} {ot : Option (List Int)} (hb : ∀ j, 0 ≤ b j ∧ b j ≤ 255) (h : CE b L ρ lag C (Ofl K) ot) (hm : lag.reverse ++ C = mof (S, ot)) (hk : (tkx b L ρ).2.2.1 = -1 ∨ (tkx b L ρ).2.2.1 = 59) : (tkr b L ρ).1 = -1 ∧ (nxs b L ρ).2.2.1 = Ofl ((S, ot) :: K) ∧ (nxs b L ρ).2.2.2.1 = [] ∧ (nxs b L ρ).2.2.2.2 4 = 0 ∧ (nxs b L ρ).2.2.2.2 5 = ρ.2.2.2.2 5 ∧ (nxs b L ρ).2.2.2.2 6 = ρ.2.2.2.2 6 := by
  have tr := ce_tk hb h
  obtain ⟨h1, h2, h3, h4, h5⟩ := h
  have lg0 : ∀ o, o ∈ lag → (0 : Int) ≤ rkf o := fun o q => by have := rkf_b (h4 o q); omega
  have e2 := stl2_lag (rk := 0) lag [] (C ++ Ofl K) lg0 (fun o r q => by cases q)
  rw [List.append_nil] at e2
  unfold tkEnd at tr
  rw [if_neg (by omega), e2] at tr
  dsimp only at tr
  have mk : (if ρ.2.2.2.2 9 = 0 then (40 : Int) else 41) = if ot = none then 40 else 41 := by
    rcases h5 with ⟨a0, a1, _⟩ | ⟨a0, a1, _⟩
    · rw [if_pos a1, if_pos a0]
    · rw [if_neg a1, if_neg a0]
  refine ⟨by rw [tr], ?_, ?_, ?_, ?_, ?_⟩
  · show (tkr b L ρ).2.1 = _
    rw [tr, mk, Ofl, ← hm, List.append_assoc]
  · show (tkr b L ρ).2.2.1 = _
    rw [tr]
  · show (tkr b L ρ).2.2.2 4 = _
    rw [tr]; dsimp only; rw [fup_s]
  · show (tkr b L ρ).2.2.2 5 = _
    rw [tr]; dsimp only; rw [fup_n (by omega), fup_n (by omega)]
  · show (tkr b L ρ).2.2.2 6 = _
    rw [tr]; dsimp only; rw [fup_n (by omega), fup_n (by omega)]
/-- all clauses read *)-/
def rdone (b : Nat → Int) (L : Int) (σ : zS) (A : Nat → Nat → Int) (t : Nat) : Prop := ∃ n ρ K', crn b L n σ ρ ∧ (tkr b L ρ).1 = -1 ∧ (tkx b L ρ).2.2.1 = -1 ∧ (nxs b L ρ).2.2.1 = Ofl K' ∧ RT A t K' ∧ K'.length ≤ 12 ∧ (nxs b L ρ).2.2.2.2 4 = 0 ∧ (nxs b L ρ).2.2.2.2 5 = (K'.length : Int)
theorem m_rru_l (ht : t < 6) : ∀ (m : Nat) (K : zK) (σ : zS) (A F : Nat → Nat → Int), K.length + m = 13 → RT A t K → TM A F b L → F 103 9 = 0 → F 103 11 = (t : Int) → F 103 12 = σ.2.2.2.2 6 → F 103 14 = (K.length : Int) → plc F b L σ.1 → σ.2.2.1 = Ofl K → σ.2.2.2.1 = [] → cok L σ → σ.2.2.2.2 4 = 0 → σ.2.2.2.2 5 = (K.length : Int) → ∃ z H A' F' z', cl mX11_clauseHere [vr 103] (HP A F E) = some (vi z, H) ∧ rn mX11_readsAll 35 [vr 103, vi z] [] H = rn mX11_readsAll 88 [vr 103, vi z'] [] (HP A' F' E) ∧ rfR A F A' F' t ∧ (flt b L σ F' ∨ (F' 103 9 = 0 ∧ rdone b L σ A' t)) := by
  intro m
  induction m with
  | zero =>
    intro K σ A F hm rt tm h9 h11 h12 h14 pc hO hW ck v4 v5
    have := ck.1.2.2.2.1
    omega
  | succ m ih =>
    intro K σ A F hm rt tm h9 h11 h12 h14 pc hO hW ck v4 v5
    have hb := tm.2.2.1
    have L4 := tm.2.1
    obtain ⟨A', F', f1, ⟨n, ρ, C, lag, S, ot, c1, c2, c3, tm', g5, g3, c7', c8, c9, c10, g4, cK⟩ | ⟨c1, c2⟩⟩ := m_rclause (E := E) ht rt (by omega) tm h9 h11 h12 h14 pc hO hW ck v4 v5
    · have ck2 := (crn_ok hb n σ ρ ck c1).1
      have y := ck2.2.1
      have kb := sk_b (b := b) y.2
      have tc : (tkx b L ρ).2.1 = sk b L ρ.1 := (tnx_c (va := ρ.2.1) hb y.1 y.2).1
      have k59 := tok_k (k := 59) (va := ρ.2.1) hb y.1 y.2 (by omega) (by omega) (by decide) (by decide)
      have ke := tok_e (va := ρ.2.1) hb y.1 y.2
      have ex : tnx b L ρ.1 ρ.2.1 = tkx b L ρ := rfl
      rw [ex] at k59 ke
      have ce := ce_end (S := S) hb c8 c9
      have ct := ce_tk hb c8
      have se := m_see (E := E) tm' rfl g5.1.1 g5.1.2
      rw [g5.2] at se
      have si := sk_id (b := b) (L := L) y.1 y.2
      have tm1 : TM A' (fF F' 8 (sk b L ρ.1)) b L := TM_f tm' (by omega)
      have se2 := m_see (E := E) (p := sk b L ρ.1) tm1 fF_s (by omega) kb.2
      rw [si, fF_fF] at se2
      generalize hs : sk b L ρ.1 = s at *
      have e8 : fF F' 8 s 103 8 = s := fF_s
      have e9 : fF F' 8 s 103 9 = 0 := by rw [fF_n (by omega)]; exact g3
      by_cases q1 : byt b L s = -1
      · rw [q1] at se se2
        obtain ⟨d1, d2, d3, d4, d5, d6⟩ := ce (Or.inl (ke.mpr q1))
        refine ⟨1, _, A', fF F' 8 s, 1, c2, ?_, rfR_t f1 (rfR_f (Or.inl rfl)), Or.inr ⟨e9, n, ρ, (S, ot) :: K, c1, d1, ke.mpr q1, d2, c3, by rw [List.length_cons]; omega, d4, by rw [d5, c10, List.length_cons]; omega⟩⟩
        rw [sX11_readsAll_35]
        simp (disch := omega) only [eX11_readsAll, sX11_readsAll_0, sX11_readsAll_1, sX11_readsAll_4, sX11_readsAll_5, sX11_readsAll_8, sX11_readsAll_9, sX11_readsAll_10, sX11_readsAll_11, sX11_readsAll_12, sX11_readsAll_15, sX11_readsAll_16, sX11_readsAll_17, sX11_readsAll_20, sX11_readsAll_21, sX11_readsAll_22, sX11_readsAll_25, sX11_readsAll_26, sX11_readsAll_27, sX11_readsAll_30, sX11_readsAll_31, sX11_readsAll_34, sX11_readsAll_36, sX11_readsAll_39, sX11_readsAll_40, sX11_readsAll_43, sX11_readsAll_45, sX11_readsAll_48, sX11_readsAll_49, sX11_readsAll_50, sX11_readsAll_53, sX11_readsAll_54, sX11_readsAll_55, sX11_readsAll_58, sX11_readsAll_59, sX11_readsAll_62, sX11_readsAll_63, sX11_readsAll_66, sX11_readsAll_67, sX11_readsAll_70, sX11_readsAll_71, sX11_readsAll_74, sX11_readsAll_75, sX11_readsAll_78, sX11_readsAll_79, sX11_readsAll_80, sX11_readsAll_81, sX11_readsAll_84, sX11_readsAll_87, sX11_readsAll_89, sX11_readsAll_90, sX11_readsAll_93, sX11_readsAll_94, sX11_readsAll_97, sX11_readsAll_100, sX11_readsAll_101, sX11_readsAll_104, sX11_readsAll_105, ↓hk103, ↓bndi_at se, ↓bndi_at se2, ↓if_pos, ↓if_neg]
      · by_cases q2' : byt b L s = 59
        · have xp := k59.2 q2'
          obtain ⟨d1, d2, d3, d4, d5, d6⟩ := ce (Or.inr (k59.1.mpr q2'))
          have ck4 := nxs_ok hb ck2 d1
          have rc1 := crn_1 d1 (by rw [k59.1.mpr q2']; omega)
          have b1 : (nxs b L ρ).1 = s + 1 := xp
          generalize nxs b L ρ = τ1 at *
          rw [q2'] at se
          have tm2 : TM A' (fF F' 8 (s + 1)) b L := TM_f tm' (by omega)
          obtain ⟨z, H, A2, F2, z', u1, u2, u3, u4⟩ := ih ((S, ot) :: K) τ1 A' (fF F' 8 (s + 1)) (by rw [List.length_cons]; omega) c3 tm2 (by rw [fF_n (by omega)]; exact g3) (by rw [fF_n (by omega), f1.2.2.1 11 (by omega) (by omega) (by omega) (by omega) (by omega) (by omega) (by omega)]; exact h11) (by rw [fF_n (by omega), d6]; exact c7') (by rw [fF_n (by omega), List.length_cons]; omega) (plc_i (by rw [fF_s, b1]) ck4.1.2.1) d2 d3 ck4.1 d4 (by rw [d5, c10, List.length_cons]; omega)
          refine ⟨1, _, A2, F2, z', c2, ?_, rfR_t (rfR_t f1 (rfR_f (Or.inl rfl))) u3, ?_⟩
          · have pt : aup (fF F' 8 s) 103 (fup (fF F' 8 s 103) 8 (s + 1)) = fF F' 8 (s + 1) := by
              show fF (fF F' 8 s) 8 (s + 1) = _
              rw [fF_fF]
            rw [sX11_readsAll_35, ← u2]
            simp (disch := omega) only [eX11_readsAll, sX11_readsAll_0, sX11_readsAll_1, sX11_readsAll_4, sX11_readsAll_5, sX11_readsAll_8, sX11_readsAll_9, sX11_readsAll_10, sX11_readsAll_11, sX11_readsAll_12, sX11_readsAll_15, sX11_readsAll_16, sX11_readsAll_17, sX11_readsAll_20, sX11_readsAll_21, sX11_readsAll_22, sX11_readsAll_25, sX11_readsAll_26, sX11_readsAll_27, sX11_readsAll_30, sX11_readsAll_31, sX11_readsAll_34, sX11_readsAll_36, sX11_readsAll_39, sX11_readsAll_40, sX11_readsAll_43, sX11_readsAll_45, sX11_readsAll_48, sX11_readsAll_49, sX11_readsAll_50, sX11_readsAll_53, sX11_readsAll_54, sX11_readsAll_55, sX11_readsAll_58, sX11_readsAll_59, sX11_readsAll_62, sX11_readsAll_63, sX11_readsAll_66, sX11_readsAll_67, sX11_readsAll_70, sX11_readsAll_71, sX11_readsAll_74, sX11_readsAll_75, sX11_readsAll_78, sX11_readsAll_79, sX11_readsAll_80, sX11_readsAll_81, sX11_readsAll_84, sX11_readsAll_87, sX11_readsAll_89, sX11_readsAll_90, sX11_readsAll_93, sX11_readsAll_94, sX11_readsAll_97, sX11_readsAll_100, sX11_readsAll_101, sX11_readsAll_104, sX11_readsAll_105, ↓hk103, ↓hf103_8, ↓hp103_8, ↓bndi_at se, e8, i32_of, pt, ↓bndi_at u1, ↓if_pos, ↓if_neg]
          · rcases u4 with u | ⟨u, n2, ρ2, K2, w1, w2⟩
            · exact Or.inl (flt_t c1 (flt_t rc1 u))
            · exact Or.inr ⟨u, n + (1 + n2), ρ2, K2, crn_t n (1 + n2) σ ρ ρ2 c1 (crn_t 1 n2 ρ τ1 ρ2 rc1 w1), w2⟩
        · have fl := m_fails (A := A') (E := E) (k := 0) (at' := s) e9 (by omega) (by omega)
          refine ⟨1, _, A', fF (fF F' 8 s) 9 (1 + 8 * s + 0), 1, c2, ?_, rfR_t (rfR_t f1 (rfR_f (Or.inl rfl))) (rfR_f (Or.inr (Or.inl rfl))), Or.inl ⟨n, ρ, c1, ?_, ?_⟩⟩
          · rw [sX11_readsAll_35]
            simp (disch := omega) only [eX11_readsAll, sX11_readsAll_0, sX11_readsAll_1, sX11_readsAll_4, sX11_readsAll_5, sX11_readsAll_8, sX11_readsAll_9, sX11_readsAll_10, sX11_readsAll_11, sX11_readsAll_12, sX11_readsAll_15, sX11_readsAll_16, sX11_readsAll_17, sX11_readsAll_20, sX11_readsAll_21, sX11_readsAll_22, sX11_readsAll_25, sX11_readsAll_26, sX11_readsAll_27, sX11_readsAll_30, sX11_readsAll_31, sX11_readsAll_34, sX11_readsAll_36, sX11_readsAll_39, sX11_readsAll_40, sX11_readsAll_43, sX11_readsAll_45, sX11_readsAll_48, sX11_readsAll_49, sX11_readsAll_50, sX11_readsAll_53, sX11_readsAll_54, sX11_readsAll_55, sX11_readsAll_58, sX11_readsAll_59, sX11_readsAll_62, sX11_readsAll_63, sX11_readsAll_66, sX11_readsAll_67, sX11_readsAll_70, sX11_readsAll_71, sX11_readsAll_74, sX11_readsAll_75, sX11_readsAll_78, sX11_readsAll_79, sX11_readsAll_80, sX11_readsAll_81, sX11_readsAll_84, sX11_readsAll_87, sX11_readsAll_89, sX11_readsAll_90, sX11_readsAll_93, sX11_readsAll_94, sX11_readsAll_97, sX11_readsAll_100, sX11_readsAll_101, sX11_readsAll_104, sX11_readsAll_105, ↓hk103, ↓hf103_8, ↓bndi_at se, ↓bndi_at se2, e8, ↓bndi_at fl, ↓if_pos q1, ↓if_pos q2', ↓if_neg q1, ↓if_pos, ↓if_neg]
          · rw [ct]; unfold tkEnd
            rw [if_pos ⟨fun q => q1 (ke.mp q), fun q => q2' (k59.1.mp q)⟩]; dsimp only; omega
          · rw [ct, tc, fF_s]; unfold tkEnd
            rw [if_pos ⟨fun q => q1 (ke.mp q), fun q => q2' (k59.1.mp q)⟩]
    · refine ⟨0, _, A', F', 0, c2, ?_, f1, Or.inl c1⟩
      rw [sX11_readsAll_35]
      simp (disch := omega) only [eX11_readsAll, sX11_readsAll_0, sX11_readsAll_1, sX11_readsAll_4, sX11_readsAll_5, sX11_readsAll_8, sX11_readsAll_9, sX11_readsAll_10, sX11_readsAll_11, sX11_readsAll_12, sX11_readsAll_15, sX11_readsAll_16, sX11_readsAll_17, sX11_readsAll_20, sX11_readsAll_21, sX11_readsAll_22, sX11_readsAll_25, sX11_readsAll_26, sX11_readsAll_27, sX11_readsAll_30, sX11_readsAll_31, sX11_readsAll_34, sX11_readsAll_36, sX11_readsAll_39, sX11_readsAll_40, sX11_readsAll_43, sX11_readsAll_45, sX11_readsAll_48, sX11_readsAll_49, sX11_readsAll_50, sX11_readsAll_53, sX11_readsAll_54, sX11_readsAll_55, sX11_readsAll_58, sX11_readsAll_59, sX11_readsAll_62, sX11_readsAll_63, sX11_readsAll_66, sX11_readsAll_67, sX11_readsAll_70, sX11_readsAll_71, sX11_readsAll_74, sX11_readsAll_75, sX11_readsAll_78, sX11_readsAll_79, sX11_readsAll_80, sX11_readsAll_81, sX11_readsAll_84, sX11_readsAll_87, sX11_readsAll_89, sX11_readsAll_90, sX11_readsAll_93, sX11_readsAll_94, sX11_readsAll_97, sX11_readsAll_100, sX11_readsAll_101, sX11_readsAll_104, sX11_readsAll_105, ↓hk103, ↓if_pos, ↓if_neg]
end RL
