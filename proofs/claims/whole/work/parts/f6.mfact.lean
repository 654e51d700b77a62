/-! facts, brackets closed, in both -/
section V7
variable {b : Nat → Int} {L : Int}
theorem tk_10 {kd va s : Int} {O W : List Int} {v : Nat → Int} (h : v 7 ≤ 10) (w : (tkS kd va b L s O W v).1 = -1) : (tkS kd va b L s O W v).2.2.2 7 ≤ 10 := by
  have hs : ∀ rk, 0 ≤ (stl2 rk W O).2.2 := fun rk => (stl2_n (rk := rk) W O).1
  have hv : ∀ v : Nat → Int, v 7 ≤ 10 → (tkVal kd va b L s O W v).2.2.2 7 ≤ 10 := by
    intro v h
    unfold tkVal
    split
    · exact h
    · split
      · exact h
      · dsimp only; rw [fup_n (by omega), fup_n (by omega)]; exact h
  have he : (tkEnd kd O W v).2.2.2 7 ≤ 10 := by
    unfold tkEnd
    split
    · exact h
    · dsimp only; rw [fup_n (by omega), fup_s]; have := hs 0; omega
  have ht : (tkBT kd b L s O W v).2.2.2 7 ≤ 10 := by
    unfold tkBT
    split
    · exact he
    · dsimp only; rw [fup_n (by omega), fup_n (by omega), fup_s]; have := hs 0; omega
  have hf : (tkBF kd b L s O W v).2.2.2 7 ≤ 10 := by
    unfold tkBF
    split
    · dsimp only; rw [fup_n (by omega), fup_s]; have := hs (rkf (jop b L s)); omega
    · split
      · exact he
      · split
        · exact h
        · dsimp only; rw [fup_n (by omega), fup_n (by omega), fup_s]; have := hs 0; omega
  unfold tkS at w ⊢
  split
  · unfold tkTurn
    split
    · exact h
    · dsimp only; simp (disch := omega) only [fup_n]; exact h
  · rename_i z0
    rw [if_neg z0] at w
    split
    · exact hv v h
    · rename_i z1
      rw [if_neg z1] at w
      split
      · rename_i z2
        rw [if_pos z2] at w
        unfold tkFact at w ⊢
        split
        · exact hv _ (by rw [fup_n (by omega)]; exact h)
        · rename_i y
          rw [if_neg y] at w
          dsimp only at w ⊢
          rw [fup_n (by omega), fup_s]
          by_cases q : v 7 < 10
          · omega
          · rw [if_neg q] at w; omega
      · split
        · unfold tkBV
          split
          · dsimp only; rw [fup_n (by omega), fup_s]; have := hs (rkf (opf kd)); omega
          · split
            · exact ht
            · split
              · exact hf
              · split
                · exact h
                · dsimp only; simp (disch := omega) only [fup_n, fup_s]; have := hs (rkf (opf kd)); omega
        · exact hf
theorem crn_10 : ∀ (n : Nat) (σ τ : zS), crn b L n σ τ → σ.2.2.2.2 7 ≤ 10 → τ.2.2.2.2 7 ≤ 10
  | 0, σ, τ, r, h => by have e : τ = σ := r; rw [e]; exact h
  | n + 1, σ, τ, r, h => crn_10 n (nxs b L σ) τ r.2.2 (tk_10 h r.1)
end V7
theorem wdH_1 {b : Nat → Int} {L s w1 w2 : Int} (h1 : wdH b L s w1 = true) (h2 : wdH b L s w2 = true) : w1 = w2 := by
  have a := (of_decide_eq_true h1).2.2
  have c := (of_decide_eq_true h2).2.2
  omega
theorem wdH_l {b : Nat → Int} {L s w : Int} (s0 : 0 ≤ s) (h : wdH b L s w = true) : ltr (byt b L s) = true := by
  cases q : ltr (byt b L s) with
  | true => rfl
  | false => rw [wdH_0 s0 q] at h; cases h
/-- a word's token -/
theorem tkx_wd {b : Nat → Int} {L x va w : Int} (hb : ∀ j, 0 ≤ b j ∧ b j ≤ 255) (h0 : 0 ≤ x ∧ x ≤ L) (h : wdH b L (sk b L x) w = true) : (tnx b L x va).2.2.1 = -3 ∧ (tnx b L x va).1 = wde b L (sk b L x) := by
  have kb := sk_b (b := b) h0.2
  have l := wdH_l (by omega) h
  obtain ⟨t1, ⟨u1, u2, u3, u4, u5⟩ | ⟨u1, u2, u3, u4⟩ | ⟨u1, u2, u3, u4⟩ | ⟨u1, u2, u3, u5, u4⟩⟩ := tnx_c (va := va) hb h0.1 h0.2
  · rw [u4] at l; cases l
  · rw [u3] at l; cases l
  · rw [u4]; exact ⟨rfl, rfl⟩
  · rw [u3] at l; cases l
section FA
variable {A F : Nat → Nat → Int} {E : zE} {b v : Nat → Int} {L : Int} {t g : Nat} {C O0 lag w S M0 T S0 : List Int} {σ τ : zS}
theorem wel_r (h : wel w) : ∀ o r, w = o :: r → rkf o < 4 := fun o r q => by
  rcases h o (by rw [q]; exact List.mem_cons_self ..) with y | y | y | y <;> rw [y] <;> decide
theorem m_fact_l (ht : t < 6) (hg : g ≤ O0.length) : ∀ (m : Nat) (A F : Nat → Nat → Int) (σ : zS) (w : List Int) (x2 : zV), L - σ.1 < (m : Int) → MS A F b L t g σ.1 C σ.2.2.2.2 → σ.2.2.1 = C ++ O0 → σ.2.2.2.1 = w → OS A F w → cok L σ → σ.2.2.2.2 4 = 2 → σ.2.2.2.2 9 ≠ 0 → σ.2.2.2.2 7 ≤ 10 → ∃ A' F', pf1 A F A' F' t g ∧ ((∃ n ρ lag2 C2 w2 op S1 S2, crn b L n σ ρ ∧ σ.1 + 1 ≤ ρ.1 ∧ rn mX11_fact 2 [vr 103, vi 1, x2] [] (HP A F E) = some (vi 1, HP A' F' E) ∧ BV A' F' b L t g ρ C2 lag2 w2 O0 ∧ OS A' F' w2 ∧ nbw w2 = nbw w ∧ (∀ o, o ∈ lag2 → 23 ≤ o ∧ o ≤ 32) ∧ lag2.reverse ++ C2 = op :: (S2 ++ S1) ++ C ∧ nseg S1 ∧ nseg S2 ∧ (23 ≤ op ∧ op ≤ 27) ∧ (ρ.2.2.2.2 5 = σ.2.2.2.2 5 ∧ ρ.2.2.2.2 9 = σ.2.2.2.2 9 ∧ ρ.2.2.2.2 10 = 1) ∧ nar b L ρ) ∨ (flt b L σ F' ∧ rn mX11_fact 2 [vr 103, vi 1, x2] [] (HP A F E) = some (vi 0, HP A' F' E))) := by
  intro m
  induction m with
  | zero =>
    intro A F σ w x2 hm ms _ _ _ ck
    have := ck.2.1
    omega
  | succ m ih =>
    intro A F σ w x2 hm ms hO hW os ck v4 v9 v7
    obtain ⟨tm, pc, h9, h11, h12, h6, hM⟩ := id ms
    have L4 := tm.2.1
    have hb := tm.2.2.1
    have cx := ck.2.1
    have kb := sk_b (b := b) cx.2
    have si := sk_id (b := b) (L := L) cx.1 cx.2
    have se := m_see (E := E) tm rfl pc.1.1 pc.1.2
    rw [pc.2] at se
    have ts : (tkx b L σ).2.1 = sk b L σ.1 := (tnx_c (va := σ.2.1) hb cx.1 cx.2).1
    have ex : tnx b L σ.1 σ.2.1 = tkx b L σ := rfl
    generalize hs : sk b L σ.1 = s at *
    have s0 : 0 ≤ s ∧ s ≤ L := by omega
    have tm1 : TM A (fF F 8 s) b L := TM_f tm (by omega)
    have e8 : fF F 8 s 103 8 = s := fF_s
    have e9 : fF F 8 s 103 9 = 0 := by rw [fF_n (by omega)]; exact h9
    have iw := iw_s (E := E) (w := 7237492) tm1 e8 s0 si
    have os1 : OS A (fF F 8 s) w := OS_8 os (by omega)
    have ms1 : MS A (fF F 8 s) b L t g σ.1 C σ.2.2.2.2 := ⟨tm1, ⟨by rw [e8]; exact s0, by rw [e8, hs]; exact si⟩, e9, by rw [fF_n (by omega)]; exact h11, by rw [fF_n (by omega)]; exact h12, h6, hM⟩
    have ln := ck.1.2.2.2.2.2.1
    rw [if_neg (by omega), hO, hW, List.length_append] at ln
    have v7e := ck.1.2.1
    rw [hW] at v7e
    have tN : tkN b L s = (if wdH b L s 7237492 then 0 else -1) := rfl
    -- one more opens
    have go : ∀ (o cd x' : Int), (o = 22 ∧ cd = 11 ∨ o = 50 ∧ cd = 91) → (tkx b L σ).2.2.1 ≠ -1 → (tkx b L σ).1 = x' → tkr b L σ = (if σ.2.2.2.2 7 < 10 then -1 else 2, C ++ O0, o :: w, fup (fup σ.2.2.2.2 7 (σ.2.2.2.2 7 + 1)) 8 (σ.2.2.2.2 8 + (if (tkx b L σ).2.2.1 = 91 then 1 else 0))) → (∀ H, cl mX11_opens [vr 103, vi cd] (HP A (fF F 8 s) E) = some (vi 0, H) → rn mX11_fact 2 [vr 103, vi 1, x2] [] (HP A F E) = some (vi 0, H)) → (∀ A' F', cl mX11_opens [vr 103, vi cd] (HP A (fF F 8 s) E) = some (vi 1, HP A' F' E) → TM A' F' b L → F' 103 8 = s → ∃ y2, rn mX11_fact 2 [vr 103, vi 1, x2] [] (HP A F E) = rn mX11_fact 2 [vr 103, vi 1, y2] [] (HP A' (fF F' 8 x') E)) → ∃ A' F', pf1 A F A' F' t g ∧ ((∃ n ρ lag2 C2 w2 op S1 S2, crn b L n σ ρ ∧ σ.1 + 1 ≤ ρ.1 ∧ rn mX11_fact 2 [vr 103, vi 1, x2] [] (HP A F E) = some (vi 1, HP A' F' E) ∧ BV A' F' b L t g ρ C2 lag2 w2 O0 ∧ OS A' F' w2 ∧ nbw w2 = nbw w ∧ (∀ o, o ∈ lag2 → 23 ≤ o ∧ o ≤ 32) ∧ lag2.reverse ++ C2 = op :: (S2 ++ S1) ++ C ∧ nseg S1 ∧ nseg S2 ∧ (23 ≤ op ∧ op ≤ 27) ∧ (ρ.2.2.2.2 5 = σ.2.2.2.2 5 ∧ ρ.2.2.2.2 9 = σ.2.2.2.2 9 ∧ ρ.2.2.2.2 10 = 1) ∧ nar b L ρ) ∨ (flt b L σ F' ∧ rn mX11_fact 2 [vr 103, vi 1, x2] [] (HP A F E) = some (vi 0, HP A' F' E))) := by
      intro o cd x' ho hk hx' tr hr0 hr1
      rcases m_opens (E := E) (t := t) (g := g) (o := o) (cd := cd) os1 e9 (by rw [e8]; omega) (by omega) ho with ⟨g1, g2⟩ | ⟨g1, A1, F1, g2, g3, g4, g5, g6, g7⟩
      · rw [e8] at g2
        refine ⟨A, fF (fF F 8 s) 9 (1 + 8 * s + 2), pf1_t (pf1_f (Or.inl rfl)) (pf1_f (Or.inr (Or.inl rfl))), Or.inr ⟨⟨0, σ, rfl, ?_, ?_⟩, hr0 _ g2⟩⟩
        · rw [tr, if_neg (by omega)]; dsimp only; omega
        · rw [fF_s, tr, if_neg (by omega), ts]
      · rw [if_pos (by omega)] at tr
        have w1 : (tkr b L σ).1 = -1 := by rw [tr]
        have ck1 := nxs_ok hb ck w1
        have rc1 := crn_1 w1 hk
        have a1 : (nxs b L σ).1 = x' := hx'
        have a3 : (nxs b L σ).2.2.1 = C ++ O0 := by show (tkr b L σ).2.1 = _; rw [tr]
        have a4 : (nxs b L σ).2.2.2.1 = o :: w := by show (tkr b L σ).2.2.1 = _; rw [tr]
        have a5 : (nxs b L σ).2.2.2.2 = fup (fup σ.2.2.2.2 7 (σ.2.2.2.2 7 + 1)) 8 (σ.2.2.2.2 8 + (if (tkx b L σ).2.2.1 = 91 then 1 else 0)) := by show (tkr b L σ).2.2.2 = _; rw [tr]
        generalize hτ : nxs b L σ = τ at *
        have tmA : TM A1 F1 b L := ⟨by rw [g7 1 (by omega) (by omega)]; exact tm1.1, tm.2.1, hb, fun j hj => by rw [g4.1 104 (by omega) (by omega) (by omega)]; exact tm.2.2.2 j hj⟩
        obtain ⟨y2, run⟩ := hr1 A1 F1 g2 tmA (by rw [g7 8 (by omega) (by omega)]; exact e8)
        have ms2 : MS A1 (fF F1 8 x') b L t g τ.1 C τ.2.2.2.2 := ⟨TM_f tmA (by omega), plc_i (by rw [fF_s, a1]) (by rw [a1]; have := ck1.1.2.1; rw [a1] at this; exact this), by rw [fF_n (by omega), g7 9 (by omega) (by omega)]; exact e9, by rw [fF_n (by omega), g7 11 (by omega) (by omega), fF_n (by omega)]; exact h11, by rw [fF_n (by omega), g7 12 (by omega) (by omega), fF_n (by omega), a5, fup_n (by omega), fup_n (by omega)]; exact h12, by rw [g6]; exact h6, by rw [g5]; exact hM⟩
        obtain ⟨A2, F2, i1, i2⟩ := ih A1 (fF F1 8 x') τ (o :: w) y2 (by have := ck1.2.2 hk; omega) ms2 a3 a4 (OS_8 g3 (by omega)) ck1.1 (by rw [a5, fup_n (by omega), fup_n (by omega)]; exact v4) (by rw [a5, fup_n (by omega), fup_n (by omega)]; exact v9) (by rw [a5, fup_n (by omega), fup_s]; omega)
        refine ⟨A2, F2, pf1_t (pf1_t (pf1_f (Or.inl rfl)) (pf1_t g4 (pf1_f (Or.inl rfl)))) i1, ?_⟩
        rcases i2 with ⟨n, ρ, lag2, C2, w2, op, S1, S2, j1, j1', j2, j3, j4, j5, j6, j7, j8, j9, j10, j11, j12⟩ | ⟨j1, j2⟩
        · refine Or.inl ⟨1 + n, ρ, lag2, C2, w2, op, S1, S2, crn_t 1 n σ τ ρ rc1 j1, by have := ck1.2.1; omega, by rw [run]; exact j2, j3, j4, ?_, j6, j7, j8, j9, j10, ?_, j12⟩
          · rw [j5, nbw, if_neg (by omega)]; rfl
          · rw [a5] at j11
            simp (disch := omega) only [fup_n] at j11
            exact j11
        · exact Or.inr ⟨flt_t rc1 j1, by rw [run]; exact j2⟩
    by_cases y : wdH b L s 7237492 = true
    · -- not
      have tw := tkx_wd (va := σ.2.1) hb cx (w := 7237492) (by rw [hs]; exact y)
      rw [ex, hs] at tw
      rw [if_pos y] at tN iw
      have n91 : ¬ (tkx b L σ).2.2.1 = 91 := by omega
      refine go 22 11 (wde b L s) (Or.inl ⟨rfl, rfl⟩) (by omega) tw.2 ?_ (fun H g2 => ?_) (fun A1 F1 g2 tmA f8 => ?_)
      · unfold tkr tkS
        rw [if_neg (by omega), if_neg (by omega), if_pos v4]
        unfold tkFact
        rw [ts, if_neg (fun q => by omega), hO, hW, if_neg n91, if_neg n91]
      · rw [sX11_fact_2]
        simp (disch := omega) only [eX11_fact, sX11_fact_0, sX11_fact_1, sX11_fact_3, sX11_fact_6, sX11_fact_7, sX11_fact_8, sX11_fact_9, sX11_fact_12, sX11_fact_13, sX11_fact_14, sX11_fact_17, sX11_fact_20, sX11_fact_23, sX11_fact_24, sX11_fact_26, sX11_fact_29, sX11_fact_32, sX11_fact_33, sX11_fact_34, sX11_fact_35, sX11_fact_38, sX11_fact_39, sX11_fact_40, sX11_fact_43, sX11_fact_44, sX11_fact_46, sX11_fact_49, sX11_fact_50, sX11_fact_52, sX11_fact_55, sX11_fact_58, sX11_fact_59, sX11_fact_60, sX11_fact_61, sX11_fact_62, sX11_fact_65, sX11_fact_66, sX11_fact_67, sX11_fact_70, sX11_fact_71, sX11_fact_72, sX11_fact_75, sX11_fact_76, sX11_fact_79, ↓hk103, ↓bndi_at se, ↓bndi_at iw, ↓bndi_at g2, ↓if_pos, ↓if_neg, ↓reduceIte, true_or]
      · have pw := m_passWord (E := E) tmA f8 s0.1 s0.2
        refine ⟨vi (byt b L s), ?_⟩
        conv => lhs; rw [sX11_fact_2]
        simp (disch := omega) only [eX11_fact, sX11_fact_0, sX11_fact_1, sX11_fact_3, sX11_fact_6, sX11_fact_7, sX11_fact_8, sX11_fact_9, sX11_fact_12, sX11_fact_13, sX11_fact_14, sX11_fact_17, sX11_fact_20, sX11_fact_23, sX11_fact_24, sX11_fact_26, sX11_fact_29, sX11_fact_32, sX11_fact_33, sX11_fact_34, sX11_fact_35, sX11_fact_38, sX11_fact_39, sX11_fact_40, sX11_fact_43, sX11_fact_44, sX11_fact_46, sX11_fact_49, sX11_fact_50, sX11_fact_52, sX11_fact_55, sX11_fact_58, sX11_fact_59, sX11_fact_60, sX11_fact_61, sX11_fact_62, sX11_fact_65, sX11_fact_66, sX11_fact_67, sX11_fact_70, sX11_fact_71, sX11_fact_72, sX11_fact_75, sX11_fact_76, sX11_fact_79, ↓hk103, ↓bndi_at se, ↓bndi_at iw, ↓bndi_at g2, ↓bndv_at pw, ↓if_pos, ↓if_neg]
    · rw [if_neg y] at tN iw
      have k91 := tok_k (k := 91) (va := σ.2.1) hb cx.1 cx.2 (by omega) (by omega) (by decide) (by decide)
      rw [ex, hs] at k91
      by_cases z : byt b L s = 91
      · -- a bracket
        have kx := k91.1.mpr z
        have px := k91.2 z
        rw [z] at se
        refine go 50 91 (s + 1) (Or.inr ⟨rfl, rfl⟩) (by omega) px ?_ (fun H g2 => ?_) (fun A1 F1 g2 tmA f8 => ?_)
        · unfold tkr tkS
          rw [if_neg (by omega), if_neg (by omega), if_pos v4]
          unfold tkFact
          rw [if_neg (fun q => q.1 kx), hO, hW, if_pos kx, if_pos kx]
        · rw [sX11_fact_2]
          simp (disch := omega) only [eX11_fact, sX11_fact_0, sX11_fact_1, sX11_fact_3, sX11_fact_6, sX11_fact_7, sX11_fact_8, sX11_fact_9, sX11_fact_12, sX11_fact_13, sX11_fact_14, sX11_fact_17, sX11_fact_20, sX11_fact_23, sX11_fact_24, sX11_fact_26, sX11_fact_29, sX11_fact_32, sX11_fact_33, sX11_fact_34, sX11_fact_35, sX11_fact_38, sX11_fact_39, sX11_fact_40, sX11_fact_43, sX11_fact_44, sX11_fact_46, sX11_fact_49, sX11_fact_50, sX11_fact_52, sX11_fact_55, sX11_fact_58, sX11_fact_59, sX11_fact_60, sX11_fact_61, sX11_fact_62, sX11_fact_65, sX11_fact_66, sX11_fact_67, sX11_fact_70, sX11_fact_71, sX11_fact_72, sX11_fact_75, sX11_fact_76, sX11_fact_79, ↓hk103, ↓bndi_at se, ↓bndi_at iw, ↓bndi_at g2, ↓if_pos, ↓if_neg, ↓reduceIte, true_or, not_true_eq_false]
        · refine ⟨vi 91, ?_⟩
          have pt : aup F1 103 (fup (F1 103) 8 (s + 1)) = fF F1 8 (s + 1) := rfl
          conv => lhs; rw [sX11_fact_2]
          simp (disch := omega) only [eX11_fact, sX11_fact_0, sX11_fact_1, sX11_fact_3, sX11_fact_6, sX11_fact_7, sX11_fact_8, sX11_fact_9, sX11_fact_12, sX11_fact_13, sX11_fact_14, sX11_fact_17, sX11_fact_20, sX11_fact_23, sX11_fact_24, sX11_fact_26, sX11_fact_29, sX11_fact_32, sX11_fact_33, sX11_fact_34, sX11_fact_35, sX11_fact_38, sX11_fact_39, sX11_fact_40, sX11_fact_43, sX11_fact_44, sX11_fact_46, sX11_fact_49, sX11_fact_50, sX11_fact_52, sX11_fact_55, sX11_fact_58, sX11_fact_59, sX11_fact_60, sX11_fact_61, sX11_fact_62, sX11_fact_65, sX11_fact_66, sX11_fact_67, sX11_fact_70, sX11_fact_71, sX11_fact_72, sX11_fact_75, sX11_fact_76, sX11_fact_79, ↓hk103, ↓hf103_8, ↓hp103_8, f8, i32_of, pt, ↓bndi_at se, ↓bndi_at iw, ↓bndi_at g2, ↓if_pos, ↓if_neg, not_true_eq_false, ↓reduceIte]
      · -- a comparison
        have kx : ¬ (tkx b L σ).2.2.1 = 91 := fun q => z (k91.1.mp q)
        have en : ent b L σ (fup σ.2.2.2.2 10 0) := by
          refine ⟨?_, by omega, by rw [fup_n (by omega)]⟩
          unfold tkr tkS
          rw [if_neg (by omega), if_neg (by omega), if_pos v4]
          unfold tkFact
          rw [if_pos ⟨kx, by rw [ts]; exact tN⟩]
        obtain ⟨A1, F1, f1, ⟨n, ρ, lag2, C2, op, S1, S2, c1, c1', c2, c3, c4, c5, c6, c6', c7', c8, c9⟩ | ⟨c1, c2⟩⟩ := m_compare (E := E) ms1 ht hO hW hg ck en (wel_r os.2.2.2) (by rw [fup_n (by omega)]; exact v9) fup_s
        · refine ⟨A1, F1, pf1_t (pf1_f (Or.inl rfl)) (pf1_0 f1), Or.inl ⟨n, ρ, lag2, C2, w, op, S1, S2, c1, c1', ?_, c3, OS_0 os1 f1, rfl, c4, c5, c6, c6', c7', ?_, c9⟩⟩
          · rw [sX11_fact_2]
            simp (disch := omega) only [eX11_fact, sX11_fact_0, sX11_fact_1, sX11_fact_3, sX11_fact_6, sX11_fact_7, sX11_fact_8, sX11_fact_9, sX11_fact_12, sX11_fact_13, sX11_fact_14, sX11_fact_17, sX11_fact_20, sX11_fact_23, sX11_fact_24, sX11_fact_26, sX11_fact_29, sX11_fact_32, sX11_fact_33, sX11_fact_34, sX11_fact_35, sX11_fact_38, sX11_fact_39, sX11_fact_40, sX11_fact_43, sX11_fact_44, sX11_fact_46, sX11_fact_49, sX11_fact_50, sX11_fact_52, sX11_fact_55, sX11_fact_58, sX11_fact_59, sX11_fact_60, sX11_fact_61, sX11_fact_62, sX11_fact_65, sX11_fact_66, sX11_fact_67, sX11_fact_70, sX11_fact_71, sX11_fact_72, sX11_fact_75, sX11_fact_76, sX11_fact_79, ↓hk103, ↓bndi_at se, ↓bndi_at iw, ↓if_pos z, ↓if_pos, ↓if_neg]
            rw [sX11_fact_2]
            simp (disch := omega) only [eX11_fact, sX11_fact_0, sX11_fact_1, sX11_fact_3, sX11_fact_6, sX11_fact_7, sX11_fact_8, sX11_fact_9, sX11_fact_12, sX11_fact_13, sX11_fact_14, sX11_fact_17, sX11_fact_20, sX11_fact_23, sX11_fact_24, sX11_fact_26, sX11_fact_29, sX11_fact_32, sX11_fact_33, sX11_fact_34, sX11_fact_35, sX11_fact_38, sX11_fact_39, sX11_fact_40, sX11_fact_43, sX11_fact_44, sX11_fact_46, sX11_fact_49, sX11_fact_50, sX11_fact_52, sX11_fact_55, sX11_fact_58, sX11_fact_59, sX11_fact_60, sX11_fact_61, sX11_fact_62, sX11_fact_65, sX11_fact_66, sX11_fact_67, sX11_fact_70, sX11_fact_71, sX11_fact_72, sX11_fact_75, sX11_fact_76, sX11_fact_79, ↓hk103, ↓bndi_at c2, ↓if_pos, ↓if_neg, ↓reduceIte, or_true]
          · unfold vk at c8
            simp (disch := omega) only [fup_n] at c8
            exact ⟨c8.1, c8.2.2.2.1, c8.2.2.2.2⟩
        · refine ⟨A1, F1, pf1_t (pf1_f (Or.inl rfl)) (pf1_0 f1), Or.inr ⟨c1, ?_⟩⟩
          rw [sX11_fact_2]
          simp (disch := omega) only [eX11_fact, sX11_fact_0, sX11_fact_1, sX11_fact_3, sX11_fact_6, sX11_fact_7, sX11_fact_8, sX11_fact_9, sX11_fact_12, sX11_fact_13, sX11_fact_14, sX11_fact_17, sX11_fact_20, sX11_fact_23, sX11_fact_24, sX11_fact_26, sX11_fact_29, sX11_fact_32, sX11_fact_33, sX11_fact_34, sX11_fact_35, sX11_fact_38, sX11_fact_39, sX11_fact_40, sX11_fact_43, sX11_fact_44, sX11_fact_46, sX11_fact_49, sX11_fact_50, sX11_fact_52, sX11_fact_55, sX11_fact_58, sX11_fact_59, sX11_fact_60, sX11_fact_61, sX11_fact_62, sX11_fact_65, sX11_fact_66, sX11_fact_67, sX11_fact_70, sX11_fact_71, sX11_fact_72, sX11_fact_75, sX11_fact_76, sX11_fact_79, ↓hk103, ↓bndi_at se, ↓bndi_at iw, ↓if_pos z, ↓if_pos, ↓if_neg]
          rw [sX11_fact_2]
          simp (disch := omega) only [eX11_fact, sX11_fact_0, sX11_fact_1, sX11_fact_3, sX11_fact_6, sX11_fact_7, sX11_fact_8, sX11_fact_9, sX11_fact_12, sX11_fact_13, sX11_fact_14, sX11_fact_17, sX11_fact_20, sX11_fact_23, sX11_fact_24, sX11_fact_26, sX11_fact_29, sX11_fact_32, sX11_fact_33, sX11_fact_34, sX11_fact_35, sX11_fact_38, sX11_fact_39, sX11_fact_40, sX11_fact_43, sX11_fact_44, sX11_fact_46, sX11_fact_49, sX11_fact_50, sX11_fact_52, sX11_fact_55, sX11_fact_58, sX11_fact_59, sX11_fact_60, sX11_fact_61, sX11_fact_62, sX11_fact_65, sX11_fact_66, sX11_fact_67, sX11_fact_70, sX11_fact_71, sX11_fact_72, sX11_fact_75, sX11_fact_76, sX11_fact_79, ↓hk103, ↓bndi_at c2, ↓if_pos, ↓if_neg, ↓reduceIte, true_or]
/-- behind a fact *)-/
def BF (A F : Nat → Nat → Int) (b : Nat → Int) (L : Int) (t g : Nat) (τ : zS) (C lag w O0 T S0 : List Int) : Prop := MS A F b L t g τ.1 (lag.reverse ++ C) τ.2.2.2.2 ∧ τ.2.2.1 = C ++ O0 ∧ τ.2.2.2.1 = lag ++ w ∧ cok L τ ∧ OS A F w ∧ τ.2.2.2.2 9 ≠ 0 ∧ ((τ.2.2.2.2 4 = 3 ∧ τ.2.2.2.2 10 ≠ 0 ∧ nar b L τ) ∨ τ.2.2.2.2 4 = 4) ∧ (∀ o, o ∈ lag → 22 ≤ o ∧ o ≤ 32) ∧ lag.reverse ++ C = T ++ S0 ∧ fseg (nbw w + 1) T
theorem bf_tk (h : BF A F b L t g τ C lag w O0 T S0) : tkr b L τ = tkBF (tkx b L τ).2.2.1 b L (tkx b L τ).2.1 τ.2.2.1 τ.2.2.2.1 τ.2.2.2.2 := by
  obtain ⟨h1, h2, h3, h4, h5, h6, h7, h8⟩ := h
  unfold tkr tkS
  rcases h7 with ⟨a1, a2, a3⟩ | a1
  · rw [if_neg (by omega), if_neg (by omega), if_neg (by omega), if_pos a1]
    unfold tkBV
    unfold nar at a3
    rw [if_neg (by omega), if_neg h6, if_pos a2]
  · rw [if_neg (by omega), if_neg (by omega), if_neg (by omega), if_neg (by omega)]
theorem BF_len (h : BF A F b L t g τ C lag w O0 T S0) (hg : g ≤ O0.length) : g + (lag.reverse ++ C).length + w.length + 1 ≤ 400 ∧ τ.2.2.2.2 4 ≠ 0 := by
  obtain ⟨h1, h2, h3, h4, h5, h6, h7, h8⟩ := h
  have v4 : τ.2.2.2.2 4 ≠ 0 := by rcases h7 with q | q <;> omega
  have ln := h4.1.2.2.2.2.2.1
  rw [if_neg v4, h2, h3, List.length_append, List.length_append] at ln
  have := h4.2.1.2
  have := h1.1.2.1.2
  rw [List.length_append, List.length_reverse]
  exact ⟨by omega, v4⟩
/-- NOTs laid down behind a fact *)-/
theorem bf_lay (ht : t < 6) (hg : g ≤ O0.length) {le : Int} (hle : 1 ≤ le ∧ le ≤ 3) (h : BF A F b L t g τ C lag w O0 T S0) : ∃ A' F' p w2, w = p ++ w2 ∧ cl mX11_layDown [vr 103, vi le] (HP A F E) = some (vn, HP A' F' E) ∧ pf1 A F A' F' t g ∧ OS A' F' w2 ∧ MS A' F' b L t g τ.1 ((lag ++ p).reverse ++ C) τ.2.2.2.2 ∧ (∀ o, o ∈ p → le ≤ rkf o ∧ 20 ≤ o ∧ o ≤ 22) ∧ (∀ o r, w2 = o :: r → rkf o < le) ∧ (lag ++ p).reverse ++ C = (p.reverse ++ T) ++ S0 ∧ fseg (nbw w2 + 1) (p.reverse ++ T) ∧ ∀ k, k ≠ 13 → k ≠ 16 → F' 103 k = F 103 k := by
  obtain ⟨h1, h2, h3, h4, h5, h6, h7, h8, h9, h10⟩ := id h
  have bl := BF_len h hg
  obtain ⟨A', F', p, w2, j1, j2, j3, j4, j5, j6, j7, j8⟩ := m_layDown (E := E) ht hle h5 h1 (by omega)
  refine ⟨A', F', p, w2, j1, j4, j7, j5, by rw [List.reverse_append, List.append_assoc]; exact j6, j2, j3, ?_, ?_, j8⟩
  · rw [List.reverse_append, List.append_assoc, h9, List.append_assoc]
  · rw [j1] at h10
    exact fseg_p p T (fun o q => (j2 o q).2) h10
theorem m_clo_l (ht : t < 6) (hg : g ≤ O0.length) {v5 : Int} : ∀ (m : Nat) (A F : Nat → Nat → Int) (τ : zS) (C lag w T : List Int), L - τ.1 < (m : Int) → BF A F b L t g τ C lag w O0 T S0 → (∀ o r, w = o :: r → rkf o < 3) → τ.2.2.2.2 5 = v5 → ∃ A' F', pf1 A F A' F' t g ∧ ∃ n ρ C2 lag2 w2 T2, crn b L n τ ρ ∧ rn mX11_closes 5 [vr 103] [] (HP A F E) = some (vn, HP A' F' E) ∧ BF A' F' b L t g ρ C2 lag2 w2 O0 T2 S0 ∧ ρ.2.2.2.2 5 = v5 ∧ ¬ (byt b L (sk b L ρ.1) = 93 ∧ c50 w2 ≠ 0) ∧ F' 103 8 = sk b L ρ.1 := by
  intro m
  induction m with
  | zero =>
    intro A F τ C lag w T hm bf
    have := bf.2.2.2.1.2.1
    omega
  | succ m ih =>
    intro A F τ C lag w T hm bf hw3 h5v
    obtain ⟨ms, e1, e2, ck, os, v9, v4, hl, hT, fs⟩ := id bf
    obtain ⟨tm, pc, h9, h11, h12, h6, hM⟩ := id ms
    have bl := BF_len bf hg
    have L4 := tm.2.1
    have hb := tm.2.2.1
    have cx := ck.2.1
    have kb := sk_b (b := b) cx.2
    have si := sk_id (b := b) (L := L) cx.1 cx.2
    have se := m_see (E := E) tm rfl pc.1.1 pc.1.2
    rw [pc.2] at se
    have ex : tnx b L τ.1 τ.2.1 = tkx b L τ := rfl
    have k93 := tok_k (k := 93) (va := τ.2.1) hb cx.1 cx.2 (by omega) (by omega) (by decide) (by decide)
    rw [ex] at k93
    have e8 : fF F 8 (sk b L τ.1) 103 8 = sk b L τ.1 := fF_s
    have ms1 : MS A (fF F 8 (sk b L τ.1)) b L t g τ.1 (lag.reverse ++ C) τ.2.2.2.2 := ⟨TM_f tm (by omega), ⟨by rw [e8]; omega, by rw [e8]; exact si⟩, by rw [fF_n (by omega)]; exact h9, by rw [fF_n (by omega)]; exact h11, by rw [fF_n (by omega)]; exact h12, h6, hM⟩
    have os1 : OS A (fF F 8 (sk b L τ.1)) w := OS_8 os (by omega)
    have bf1 : BF A (fF F 8 (sk b L τ.1)) b L t g τ C lag w O0 T S0 := ⟨ms1, e1, e2, ck, os1, v9, v4, hl, hT, fs⟩
    have ins := m_isInside (E := E) os1 (by omega)
    by_cases y : byt b L (sk b L τ.1) = 93
    · rw [y] at se
      by_cases z : c50 w = 0
      · rw [if_pos z] at ins
        refine ⟨A, fF F 8 (sk b L τ.1), pf1_f (Or.inl rfl), 0, τ, C, lag, w, T, rfl, ?_, bf1, h5v, fun q => q.2 z, e8⟩
        rw [sX11_closes_5]
        simp (disch := omega) only [eX11_closes, sX11_closes_0, sX11_closes_1, sX11_closes_2, sX11_closes_6, sX11_closes_9, sX11_closes_11, sX11_closes_14, sX11_closes_15, sX11_closes_18, sX11_closes_21, sX11_closes_22, sX11_closes_23, sX11_closes_26, sX11_closes_27, sX11_closes_28, sX11_closes_31, sX11_closes_32, sX11_closes_33, sX11_closes_36, sX11_closes_37, sX11_closes_38, sX11_closes_41, sX11_closes_42, sX11_closes_43, sX11_closes_46, sX11_closes_47, sX11_closes_48, sX11_closes_51, sX11_closes_52, sX11_closes_53, sX11_closes_56, sX11_closes_57, sX11_closes_58, sX11_closes_61, sX11_closes_64, ↓hk103, ↓bndi_at se, ↓bndi_at ins, ↓if_pos, ↓if_neg, not_true_eq_false, ↓reduceIte]
      · rw [if_neg z] at ins
        obtain ⟨A1, F1, p, w2, j1, j2, j3, j4, j5, j6, j7, j8, j9, j10⟩ := bf_lay (E := E) ht hg (le := 1) (by omega) bf1
        -- what stays begins with the bracket
        have c50p : c50 p = 0 := by
          have : ∀ q : List Int, (∀ o, o ∈ q → 1 ≤ rkf o ∧ 20 ≤ o ∧ o ≤ 22) → c50 q = 0 := by
            intro q
            induction q with
            | nil => intro _; rfl
            | cons o r ih2 => intro hq; have a := (hq o (List.mem_cons_self ..)).2; rw [c50, ih2 (fun p' hp' => hq p' (List.mem_cons_of_mem _ hp')), if_neg (by omega)]; rfl
          exact this p j6
        have c50a : ∀ q r : List Int, c50 (q ++ r) = c50 q + c50 r := by
          intro q r
          induction q with
          | nil => rw [List.nil_append, c50]; omega
          | cons o q ih2 => rw [List.cons_append, c50, c50, ih2]; omega
        have c7a : ∀ q r : List Int, c7 (q ++ r) = c7 q + c7 r := by
          intro q r
          induction q with
          | nil => rw [List.nil_append, c7]; omega
          | cons o q ih2 => rw [List.cons_append, c7, c7, ih2]; omega
        obtain ⟨w3, hw2⟩ : ∃ w3, w2 = 50 :: w3 := by
          cases w2 with
          | nil => exfalso; apply z; rw [j1, c50a, c50p]; rfl
          | cons o r =>
            have a := j7 o r rfl
            rcases j4.2.2.2 o (List.mem_cons_self ..) with q | q | q | q
            · rw [q] at a; exact absurd a (by decide)
            · rw [q] at a; exact absurd a (by decide)
            · rw [q] at a; exact absurd a (by decide)
            · exact ⟨r, by rw [q]⟩
        subst hw2
        have kx := k93.1.mpr y
        have px := k93.2 y
        have lgp : ∀ o, o ∈ lag ++ p → (0 : Int) ≤ rkf o := fun o q => by
          rcases List.mem_append.mp q with q | q
          · have a := hl o q
            have := rkf_b (o := o) (by omega); omega
          · have := (j6 o q).1; omega
        have st2 : stl2 0 (lag ++ w) (C ++ O0) = ((lag ++ p).reverse ++ (C ++ O0), 50 :: w3, n22 (lag ++ p)) := by
          rw [j1, ← List.append_assoc]
          exact stl2_lag (lag ++ p) (50 :: w3) (C ++ O0) lgp (fun o r q => by cases q; rw [rkf_50]; omega)
        have v8 := ck.1.2.2.1
        have c50lag : c50 lag = 0 := by
          have : ∀ q : List Int, (∀ o, o ∈ q → 22 ≤ o ∧ o ≤ 32) → c50 q = 0 := by
            intro q
            induction q with
            | nil => intro _; rfl
            | cons o r ih2 => intro hq; have a := hq o (List.mem_cons_self ..); rw [c50, ih2 (fun p' hp' => hq p' (List.mem_cons_of_mem _ hp')), if_neg (by omega)]; rfl
          exact this lag hl
        rw [e2, c50a, c50lag] at v8
        have ts : (tkx b L τ).2.1 = sk b L τ.1 := (tnx_c (va := τ.2.1) hb cx.1 cx.2).1
        have nj : tkJ b L (tkx b L τ).2.1 = -1 := by
          rw [ts]
          exact (tkx_w (va := τ.2.1) hb cx (by rw [ex]; omega)).2.2.2.2
        have tr : tkr b L τ = (-1, (lag ++ p).reverse ++ (C ++ O0), w3, fup (fup (fup (fup τ.2.2.2.2 7 (τ.2.2.2.2 7 - n22 (lag ++ p))) 7 (τ.2.2.2.2 7 - n22 (lag ++ p) - 1)) 8 (τ.2.2.2.2 8 - 1)) 4 4) := by
          rw [bf_tk bf]
          unfold tkBF
          rw [if_neg (fun q => q nj), if_neg (by omega), if_neg (fun q => q kx), e1, e2, st2]
          rfl
        have w1 : (tkr b L τ).1 = -1 := by rw [tr]
        have ck1 := nxs_ok hb ck w1
        have rc1 := crn_1 w1 (by rw [kx]; omega)
        have a1 : (nxs b L τ).1 = sk b L τ.1 + 1 := px
        have a3 : (nxs b L τ).2.2.1 = ((lag ++ p).reverse ++ C) ++ O0 := by show (tkr b L τ).2.1 = _; rw [tr, List.append_assoc]
        have a4 : (nxs b L τ).2.2.2.1 = w3 := by show (tkr b L τ).2.2.1 = _; rw [tr]
        have a5 : (nxs b L τ).2.2.2.2 = fup (fup (fup (fup τ.2.2.2.2 7 (τ.2.2.2.2 7 - n22 (lag ++ p))) 7 (τ.2.2.2.2 7 - n22 (lag ++ p) - 1)) 8 (τ.2.2.2.2 8 - 1)) 4 4 := by show (tkr b L τ).2.2.2 = _; rw [tr]
        have pl1 := ck1.2.2 (by rw [kx]; omega)
        generalize hτ1 : nxs b L τ = τ1 at *
        obtain ⟨o1, o2, o3, o4⟩ := id j4
        rw [List.length_cons] at o1
        obtain ⟨m1, m2, m3, m4, m5, m6, m7⟩ := id j5
        have x8 : F1 103 8 = sk b L τ.1 := by rw [j10 8 (by omega) (by omega)]; exact e8
        generalize hF2 : fF (fF (fF F1 16 (w3.length : Int)) 13 (c7 w3)) 8 (sk b L τ.1 + 1) = F2
        have k2 : ∀ k, k ≠ 8 → k ≠ 13 → k ≠ 16 → F2 103 k = F1 103 k := fun k a c d => by rw [← hF2, fF_n a, fF_n c, fF_n d]
        have f8 : F2 103 8 = sk b L τ.1 + 1 := by rw [← hF2, fF_s]
        have bf2 : BF A1 F2 b L t g τ1 ((lag ++ p).reverse ++ C) [] w3 O0 (p.reverse ++ T) S0 := by
          refine ⟨⟨⟨by rw [k2 1 (by omega) (by omega) (by omega)]; exact m1.1, m1.2⟩, plc_i (by rw [f8, a1]) ck1.1.2.1, by rw [k2 9 (by omega) (by omega) (by omega)]; exact m3, by rw [k2 11 (by omega) (by omega) (by omega)]; exact m4, by rw [k2 12 (by omega) (by omega) (by omega), a5]; simp (disch := omega) only [fup_n]; exact m5, m6, m7⟩, a3, a4, ck1.1, ⟨by rw [← hF2, fF_n (by omega), fF_n (by omega), fF_s], fun k hk => ?_, by rw [← hF2, fF_n (by omega), fF_s], fun o q => o4 o (List.mem_cons_of_mem _ q)⟩, by rw [a5]; simp (disch := omega) only [fup_n]; exact v9, Or.inr (by rw [a5, fup_s]), (fun o q => by cases q), j8, ?_⟩
          · rw [o2 k (by rw [List.length_cons]; omega), wat, if_neg (by omega)]
          · rw [nbw, if_neg (by omega)] at j9; exact j9
        obtain ⟨A3, F3, p3, w4, i1, i2, i3, i4, i5, i6, i7, i8, i9, i10⟩ := bf_lay (E := E) ht hg (le := 3) (by omega) bf2
        rw [List.nil_append] at i5 i8
        have bf3 : BF A3 F3 b L t g τ1 ((lag ++ p).reverse ++ C) p3 w4 O0 (p3.reverse ++ (p.reverse ++ T)) S0 := ⟨i5, a3, by rw [a4, i1], ck1.1, i4, bf2.2.2.2.2.2.1, bf2.2.2.2.2.2.2.1, fun o q => by
          have a := i6 o q
          have c : o = 20 ∨ o = 21 ∨ o = 22 := by omega
          rcases c with c | c | c
          · rw [c] at a; exact absurd a.1 (by decide)
          · rw [c] at a; exact absurd a.1 (by decide)
          · omega, i8, i9⟩
        obtain ⟨A4, F4, q1, n, ρ, C2, lag2, w5, T2, r1, r2, r3, r4, r5⟩ := ih A3 F3 τ1 ((lag ++ p).reverse ++ C) p3 w4 (p3.reverse ++ (p.reverse ++ T)) (by omega) bf3 i7 (by rw [a5]; simp (disch := omega) only [fup_n]; exact h5v)
        refine ⟨A4, F4, pf1_t (pf1_t (pf1_t (pf1_f (Or.inl rfl)) j3) (pf1_t (by rw [← hF2]; exact pf1_t (pf1_t (pf1_f (Or.inr (Or.inr (Or.inr (Or.inr (Or.inr rfl)))))) (pf1_f (Or.inr (Or.inr (Or.inr (Or.inr (Or.inl rfl))))))) (pf1_f (Or.inl rfl))) i3)) q1, 1 + n, ρ, C2, lag2, w5, T2, crn_t 1 n τ τ1 ρ rc1 r1, ?_, r3, r4, r5⟩
        have c7e : F1 103 13 = c7 w3 + 1 := by rw [o3, c7, if_pos (Or.inr rfl)]
        have cb := c7_b w3
        have wl : w3.length ≤ 399 := by
          have bl1 := bl.1
          rw [j1, List.length_append (as := p), List.length_cons] at bl1
          omega
        have p1 : ((w3.length + 1 : Nat) : Int) - 1 = (w3.length : Int) := by omega
        have p2 : c7 w3 + 1 - 1 = c7 w3 := by omega
        have g1 : aup F1 103 (fup (fup (fup (F1 103) 16 (w3.length : Int)) 13 (c7 w3)) 8 (sk b L τ.1 + 1)) = F2 := by
          rw [← hF2]; unfold fF; rw [aup_s, aup_aup, aup_s, aup_aup]
        rw [sX11_closes_5, ← r2]
        simp (disch := omega) only [eX11_closes, sX11_closes_0, sX11_closes_1, sX11_closes_2, sX11_closes_6, sX11_closes_9, sX11_closes_11, sX11_closes_14, sX11_closes_15, sX11_closes_18, sX11_closes_21, sX11_closes_22, sX11_closes_23, sX11_closes_26, sX11_closes_27, sX11_closes_28, sX11_closes_31, sX11_closes_32, sX11_closes_33, sX11_closes_36, sX11_closes_37, sX11_closes_38, sX11_closes_41, sX11_closes_42, sX11_closes_43, sX11_closes_46, sX11_closes_47, sX11_closes_48, sX11_closes_51, sX11_closes_52, sX11_closes_53, sX11_closes_56, sX11_closes_57, sX11_closes_58, sX11_closes_61, sX11_closes_64, ↓hk103, ↓bndi_at se, ↓bndi_at ins, ↓bndv_at j2, ↓hf103_16, ↓hf103_13, ↓hf103_8, ↓hp103_16, ↓hp103_13, ↓hp103_8, o1, c7e, x8, aup_s, aup_aup, fup_n, p1, p2, i32_of, g1, ↓bndv_at i2, ↓if_pos, ↓if_neg, not_true_eq_false, ↓reduceIte]
    · refine ⟨A, fF F 8 (sk b L τ.1), pf1_f (Or.inl rfl), 0, τ, C, lag, w, T, rfl, ?_, bf1, h5v, fun q => y q.1, e8⟩
      rw [sX11_closes_5]
      simp (disch := omega) only [eX11_closes, sX11_closes_0, sX11_closes_1, sX11_closes_2, sX11_closes_6, sX11_closes_9, sX11_closes_11, sX11_closes_14, sX11_closes_15, sX11_closes_18, sX11_closes_21, sX11_closes_22, sX11_closes_23, sX11_closes_26, sX11_closes_27, sX11_closes_28, sX11_closes_31, sX11_closes_32, sX11_closes_33, sX11_closes_36, sX11_closes_37, sX11_closes_38, sX11_closes_41, sX11_closes_42, sX11_closes_43, sX11_closes_46, sX11_closes_47, sX11_closes_48, sX11_closes_51, sX11_closes_52, sX11_closes_53, sX11_closes_56, sX11_closes_57, sX11_closes_58, sX11_closes_61, sX11_closes_64, ↓hk103, ↓bndi_at se, ↓if_pos y, ↓if_pos, ↓if_neg]
end FA
