/-! terms and sums, in both: the calls -/
/-- a value is due here: v the reader's numbers as it is taken -/
def ent (b : Nat → Int) (L : Int) (σ : zS) (v : Nat → Int) : Prop := tkr b L σ = tkVal (tkx b L σ).2.2.1 (tkx b L σ).2.2.2 b L (tkx b L σ).2.1 σ.2.2.1 σ.2.2.2.1 v ∧ σ.2.2.2.2 4 ≠ 0 ∧ v 6 = σ.2.2.2.2 6
theorem ent_1 {b : Nat → Int} {L : Int} {σ : zS} (h : σ.2.2.2.2 4 = 1) : ent b L σ σ.2.2.2.2 := by
  refine ⟨?_, by omega, rfl⟩
  unfold tkr tkS
  rw [if_neg (by omega), if_pos h]
section SU
variable {A F : Nat → Nat → Int} {E : zE} {b v : Nat → Int} {L : Int} {t g : Nat} {C O0 lag w S M0 : List Int} {σ τ : zS}
theorem BV_len (bv : BV A F b L t g τ C lag w O0) (hg : g ≤ O0.length) : C.length + lag.length + w.length + g + 1 ≤ 400 ∧ (τ.1 ≤ L ∧ L ≤ 400) := by
  obtain ⟨ms, e1, e2, e3, ck⟩ := bv
  have ln := ck.1.2.2.2.2.2.1
  rw [if_neg (by omega), e1, e2, List.length_append, List.length_append] at ln
  have := ck.2.1.2
  have := ms.1.2.1.2
  omega
theorem m_term (ms : MS A F b L t g σ.1 C σ.2.2.2.2) (ht : t < 6) (hO : σ.2.2.1 = C ++ O0) (hW : σ.2.2.2.1 = w) (hg : g ≤ O0.length) (c : cok L σ) (en : ent b L σ v) (hw : ∀ o r, w = o :: r → rkf o < 6) : ∃ A' F', pf0 A F A' F' t g ∧ ((∃ n ρ lag2 S2 C2, crn b L n σ ρ ∧ σ.1 + 1 ≤ ρ.1 ∧ cl mX11_term [vr 103] (HP A F E) = some (vi 1, HP A' F' E) ∧ BV A' F' b L t g ρ C2 lag2 w O0 ∧ (∀ o, o ∈ lag2 → 30 ≤ o ∧ o ≤ 32) ∧ lag2.reverse ++ C2 = S2 ++ C ∧ nseg S2 ∧ vk v ρ.2.2.2.2 (v 10) ∧ (byt b L (sk b L ρ.1) ≠ 42 ∧ byt b L (sk b L ρ.1) ≠ 47 ∧ byt b L (sk b L ρ.1) ≠ 37)) ∨ (flt b L σ F' ∧ cl mX11_term [vr 103] (HP A F E) = some (vi 0, HP A' F' E))) := by
  have hb := ms.1.2.2.1
  obtain ⟨A1, F1, f1, ⟨c', c1, c2, c3, c4, c5, c6, c7', c8⟩ | ⟨c1, c2, c3⟩⟩ := m_value (E := E) (v := v) ms ht hO hg c en.1 en.2.1 en.2.2
  · have ck2 := nxs_ok hb c c2
    have bv : BV A1 F1 b L t g (nxs b L σ) (c' :: C) [] w O0 := ⟨c5, c6, by rw [c7', hW]; rfl, by rw [c8, fup_n (by omega), fup_s], ck2.1⟩
    have vk1 : vk v (nxs b L σ).2.2.2.2 (v 10) := by
      rw [c8]; unfold vk; simp (disch := omega) only [fup_n]; exact ⟨trivial, trivial, trivial, trivial, trivial⟩
    obtain ⟨A2, F2, i1, i2⟩ := m_term_l (E := E) (M0 := C) ht hg hw 500 A1 F1 (nxs b L σ) (c' :: C) [] [c'] vn (by have := ck2.1.2.1; have := ms.1.2.1; omega) bv (fun o q => by cases q) rfl (nseg_v (by omega)) vk1
    have rc := crn_1 c2 c3
    have run : cl mX11_term [vr 103] (HP A F E) = rn mX11_term 9 [vr 103, vn] [] (HP A1 F1 E) := by
      simp (disch := omega) only [eX11_term, sX11_term_0, sX11_term_1, sX11_term_4, sX11_term_7, sX11_term_8, sX11_term_10, sX11_term_13, sX11_term_15, sX11_term_18, sX11_term_19, sX11_term_22, sX11_term_24, sX11_term_27, sX11_term_28, sX11_term_31, sX11_term_33, sX11_term_36, sX11_term_37, sX11_term_40, sX11_term_41, sX11_term_44, sX11_term_45, sX11_term_47, sX11_term_50, sX11_term_51, sX11_term_54, sX11_term_55, sX11_term_58, sX11_term_59, sX11_term_62, sX11_term_63, sX11_term_65, sX11_term_68, sX11_term_69, sX11_term_72, sX11_term_74, sX11_term_75, sX11_term_76, sX11_term_77, sX11_term_80, sX11_term_81, sX11_term_82, sX11_term_85, sX11_term_86, sX11_term_89, sX11_term_92, sX11_term_93, sX11_term_94, sX11_term_95, sX11_term_96, sX11_term_97, sX11_term_100, sX11_term_103, sX11_term_104, ↓hk103, ↓bndi_at c4, ↓if_pos, ↓if_neg]
    refine ⟨A2, F2, pf0_t f1 i1, ?_⟩
    rcases i2 with ⟨n, ρ, lag2, S2, C2, j1, j2, j3⟩ | ⟨j1, j2⟩
    · have pl := (crn_ok hb n _ ρ ck2.1 j1).2
      exact Or.inl ⟨1 + n, ρ, lag2, S2, C2, crn_t 1 n σ _ ρ rc j1, by have := ck2.2.2 c3; omega, by rw [run]; exact j2, j3⟩
    · exact Or.inr ⟨flt_t rc j1, by rw [run]; exact j2⟩
  · refine ⟨A1, F1, f1, Or.inr ⟨⟨0, σ, rfl, c1, c3⟩, ?_⟩⟩
    simp (disch := omega) only [eX11_term, sX11_term_0, sX11_term_1, sX11_term_4, sX11_term_7, sX11_term_8, sX11_term_10, sX11_term_13, sX11_term_15, sX11_term_18, sX11_term_19, sX11_term_22, sX11_term_24, sX11_term_27, sX11_term_28, sX11_term_31, sX11_term_33, sX11_term_36, sX11_term_37, sX11_term_40, sX11_term_41, sX11_term_44, sX11_term_45, sX11_term_47, sX11_term_50, sX11_term_51, sX11_term_54, sX11_term_55, sX11_term_58, sX11_term_59, sX11_term_62, sX11_term_63, sX11_term_65, sX11_term_68, sX11_term_69, sX11_term_72, sX11_term_74, sX11_term_75, sX11_term_76, sX11_term_77, sX11_term_80, sX11_term_81, sX11_term_82, sX11_term_85, sX11_term_86, sX11_term_89, sX11_term_92, sX11_term_93, sX11_term_94, sX11_term_95, sX11_term_96, sX11_term_97, sX11_term_100, sX11_term_103, sX11_term_104, ↓hk103, ↓bndi_at c2, ↓if_pos, ↓if_neg, ↓reduceIte, true_or]
theorem rkf_a {o : Int} (h : 28 ≤ o ∧ o ≤ 32) : 5 ≤ rkf o := by
  unfold rkf
  rw [if_neg (by omega), if_neg (by omega), if_neg (by omega)]
  split <;> omega
theorem m_sum_l (ht : t < 6) (hg : g ≤ O0.length) (hw : ∀ o r, w = o :: r → rkf o < 5) {v0 : Nat → Int} {z10 : Int} : ∀ (m : Nat) (A F : Nat → Nat → Int) (τ : zS) (C lag S : List Int) (x1 : zV), L - τ.1 < (m : Int) → BV A F b L t g τ C lag w O0 → (∀ o, o ∈ lag → 28 ≤ o ∧ o ≤ 32) → lag.reverse ++ C = S ++ M0 → nseg S → vk v0 τ.2.2.2.2 z10 → (byt b L (sk b L τ.1) ≠ 42 ∧ byt b L (sk b L τ.1) ≠ 47 ∧ byt b L (sk b L τ.1) ≠ 37) → ∃ A' F', pf0 A F A' F' t g ∧ ((∃ n ρ lag2 S2 C2, crn b L n τ ρ ∧ rn mX11_sum 9 [vr 103, x1] [] (HP A F E) = some (vi 1, HP A' F' E) ∧ BV A' F' b L t g ρ C2 lag2 w O0 ∧ (∀ o, o ∈ lag2 → 28 ≤ o ∧ o ≤ 32) ∧ lag2.reverse ++ C2 = S2 ++ M0 ∧ nseg S2 ∧ vk v0 ρ.2.2.2.2 z10 ∧ ((byt b L (sk b L ρ.1) ≠ 42 ∧ byt b L (sk b L ρ.1) ≠ 47 ∧ byt b L (sk b L ρ.1) ≠ 37) ∧ byt b L (sk b L ρ.1) ≠ 43 ∧ byt b L (sk b L ρ.1) ≠ 45)) ∨ (flt b L τ F' ∧ rn mX11_sum 9 [vr 103, x1] [] (HP A F E) = some (vi 0, HP A' F' E))) := by
  intro m
  induction m with
  | zero =>
    intro A F τ C lag S x1 hm bv
    have := bv.2.2.2.2.2.1
    omega
  | succ m ih =>
    intro A F τ C lag S x1 hm bv hl hS nS hvk hnt
    obtain ⟨ms, e1, e2, e3, ck⟩ := id bv
    obtain ⟨tm, pc, h9, h11, h12, h6, hM⟩ := id ms
    have L4 := tm.2.1
    have hb := tm.2.2.1
    have cx := ck.2.1
    have kb := sk_b (b := b) cx.2
    have si := sk_id (b := b) (L := L) cx.1 cx.2
    have se := m_see (E := E) tm rfl pc.1.1 pc.1.2
    rw [pc.2] at se
    have tm1 : TM A (fF F 8 (sk b L τ.1)) b L := TM_f tm (by omega)
    have se2 := m_see (E := E) (p := sk b L τ.1) tm1 fF_s (by omega) kb.2
    rw [si, fF_fF] at se2
    have e8 : fF F 8 (sk b L τ.1) 103 8 = sk b L τ.1 := fF_s
    have go : ∀ (ch op sg : Int), byt b L (sk b L τ.1) = ch → opf ch = op → rkf op = 5 → (28 ≤ op ∧ op ≤ 29) → enc op = sg → (0 ≤ sg ∧ sg ≤ 15) → (0 ≤ ch ∧ ch < 128 ∧ ch ≠ 60 ∧ ch ≠ 62) → dgt ch = false → ltr ch = false → (A 104 (sk b L τ.1).toNat = ch → rn mX11_sum 9 [vr 103, x1] [] (HP A F E) = rn mX11_sum 57 [vr 103, vi sg] [] (HP A (fF F 8 (sk b L τ.1 + 1)) E)) → ∃ A' F', pf0 A F A' F' t g ∧ ((∃ n ρ lag2 S2 C2, crn b L n τ ρ ∧ rn mX11_sum 9 [vr 103, x1] [] (HP A F E) = some (vi 1, HP A' F' E) ∧ BV A' F' b L t g ρ C2 lag2 w O0 ∧ (∀ o, o ∈ lag2 → 28 ≤ o ∧ o ≤ 32) ∧ lag2.reverse ++ C2 = S2 ++ M0 ∧ nseg S2 ∧ vk v0 ρ.2.2.2.2 z10 ∧ ((byt b L (sk b L ρ.1) ≠ 42 ∧ byt b L (sk b L ρ.1) ≠ 47 ∧ byt b L (sk b L ρ.1) ≠ 37) ∧ byt b L (sk b L ρ.1) ≠ 43 ∧ byt b L (sk b L ρ.1) ≠ 45)) ∨ (flt b L τ F' ∧ rn mX11_sum 9 [vr 103, x1] [] (HP A F E) = some (vi 0, HP A' F' E))) := by
      intro ch op sg hc ho h5' h32 hsg hsg2 c0 cd cl' hrun
      have sL : sk b L τ.1 < L := by
        by_cases q : sk b L τ.1 < L
        · exact q
        · rw [byt_out (by omega)] at hc; omega
      have hc2 : b (sk b L τ.1).toNat = ch := by rw [← hc, byt_in (by omega) sL]
      have run := hrun (by rw [t4s tm (by omega) sL (by omega)]; exact hc2)
      obtain ⟨o1, o2, o3, o4, o5, o6⟩ := op_tok bv hc ho (by omega) ⟨c0.1, by omega, c0.2.2⟩ cd cl' (fun o q => by rw [h5']; exact rkf_a (hl o q)) (fun o q => by have := hl o q; omega) (fun o r q => by rw [h5']; exact hw o r q)
      have ck1 := (nxs_ok hb ck o1.1).2.2 o1.2.1
      generalize hτ1 : nxs b L τ = τ1 at *
      have v16 : τ1.2.2.2.2 6 = τ.2.2.2.2 6 := by rw [o5, fup_n (by omega), fup_n (by omega)]
      have v14 : τ1.2.2.2.2 4 = 1 := by rw [o5, fup_s]
      have ms1 := MS_nx (v' := τ1.2.2.2.2) (x' := sk b L τ.1 + 1) ms rfl v16 (by omega)
      rw [← o2] at ms1 run
      obtain ⟨A1, F1, f1, ⟨n, ρ, lag2, S2, C2, c1, c1', c2, c3, c4, c5, c6, c7', c8⟩ | ⟨c1, c2⟩⟩ := m_term (E := E) ms1 ht (by rw [o3]) o4 hg o6 (ent_1 v14) (fun o r q => by cases q; rw [h5']; omega)
      · obtain ⟨q0, q1, q2', q3, q4'⟩ := id c3
        obtain ⟨r1, r2, r3, r4, r5, r6, r7⟩ := id q0
        have bl := BV_len c3 hg
        rw [List.length_cons] at bl
        obtain ⟨A2, p1, p2, p3, p4⟩ := m_puts (F := F1) (E := E) (s := sg) (w := 0) (o := op) r4 ht r6 (by rw [List.length_append, List.length_reverse]; omega) r7 hsg2 (by omega) (by rw [hsg]; omega)
        have el : (lag2 ++ [op]).reverse ++ C2 = op :: (lag2.reverse ++ C2) := by rw [List.reverse_append]; rfl
        have bv2 : BV A2 F1 b L t g ρ C2 (lag2 ++ [op]) w O0 := by
          refine ⟨⟨TM_a r1 (p2.1 104 (by omega) (by omega)), r2, r3, r4, r5, ?_, ?_⟩, q1, by rw [q2', List.append_assoc]; rfl, q3, q4'⟩
          · rw [el]; exact p3
          · rw [el]; exact p4
        have vk2 : vk v0 ρ.2.2.2.2 z10 := by
          unfold vk at *
          rw [o5] at c7'
          simp (disch := omega) only [fup_n, fup_s] at c7'
          rw [c7'.1, c7'.2.1, c7'.2.2.1, c7'.2.2.2.1, c7'.2.2.2.2]
          exact hvk
        obtain ⟨A3, F3, i1, i2⟩ := ih A2 F1 ρ C2 (lag2 ++ [op]) (op :: (S2 ++ S)) (vi sg) (by omega) bv2 (fun o q => by
          rcases List.mem_append.mp q with y | y
          · have := c4 o y; omega
          · rw [List.mem_singleton.mp y]; omega) (by rw [el, c5, hS, List.cons_append, List.append_assoc]) (nseg_o nS c6 (by omega)) vk2 c8
        have run2 : rn mX11_sum 9 [vr 103, x1] [] (HP A F E) = rn mX11_sum 9 [vr 103, vi sg] [] (HP A2 F1 E) := by
          rw [run]
          simp (disch := omega) only [eX11_sum, sX11_sum_0, sX11_sum_1, sX11_sum_4, sX11_sum_7, sX11_sum_8, sX11_sum_10, sX11_sum_13, sX11_sum_15, sX11_sum_18, sX11_sum_19, sX11_sum_22, sX11_sum_24, sX11_sum_27, sX11_sum_28, sX11_sum_31, sX11_sum_32, sX11_sum_35, sX11_sum_36, sX11_sum_38, sX11_sum_41, sX11_sum_42, sX11_sum_45, sX11_sum_46, sX11_sum_47, sX11_sum_48, sX11_sum_49, sX11_sum_52, sX11_sum_53, sX11_sum_54, sX11_sum_57, sX11_sum_58, sX11_sum_61, sX11_sum_64, sX11_sum_65, sX11_sum_66, sX11_sum_67, sX11_sum_68, sX11_sum_69, sX11_sum_72, sX11_sum_75, sX11_sum_76, ↓hk103, ↓bndi_at c2, ↓bndv_at p1, ↓if_pos, ↓if_neg]
        have rr : crn b L (1 + n) τ ρ := crn_t 1 n τ τ1 ρ o1 c1
        refine ⟨A3, F3, pf0_t (pf0_t (pf0_t (pf0_f (Or.inl rfl)) f1) p2) i1, ?_⟩
        rcases i2 with ⟨n', ρ', lag3, S3, C3, j1, j2, j3⟩ | ⟨j1, j2⟩
        · exact Or.inl ⟨1 + n + n', ρ', lag3, S3, C3, crn_t (1 + n) n' τ ρ ρ' rr j1, by rw [run2]; exact j2, j3⟩
        · exact Or.inr ⟨flt_t rr j1, by rw [run2]; exact j2⟩
      · refine ⟨A1, F1, pf0_t (pf0_f (Or.inl rfl)) f1, Or.inr ⟨flt_t o1 c1, ?_⟩⟩
        rw [run]
        simp (disch := omega) only [eX11_sum, sX11_sum_0, sX11_sum_1, sX11_sum_4, sX11_sum_7, sX11_sum_8, sX11_sum_10, sX11_sum_13, sX11_sum_15, sX11_sum_18, sX11_sum_19, sX11_sum_22, sX11_sum_24, sX11_sum_27, sX11_sum_28, sX11_sum_31, sX11_sum_32, sX11_sum_35, sX11_sum_36, sX11_sum_38, sX11_sum_41, sX11_sum_42, sX11_sum_45, sX11_sum_46, sX11_sum_47, sX11_sum_48, sX11_sum_49, sX11_sum_52, sX11_sum_53, sX11_sum_54, sX11_sum_57, sX11_sum_58, sX11_sum_61, sX11_sum_64, sX11_sum_65, sX11_sum_66, sX11_sum_67, sX11_sum_68, sX11_sum_69, sX11_sum_72, sX11_sum_75, sX11_sum_76, ↓hk103, ↓bndi_at c2, ↓if_pos, ↓if_neg, ↓reduceIte, true_or]
    have pt : ∀ L' st, rn mX11_sum 57 L' st (HP A (aup (fF F 8 (sk b L τ.1)) 103 (fup (fF F 8 (sk b L τ.1) 103) 8 (sk b L τ.1 + 1))) E) = rn mX11_sum 57 L' st (HP A (fF F 8 (sk b L τ.1 + 1)) E) := fun L' st => by
      have : aup (fF F 8 (sk b L τ.1)) 103 (fup (fF F 8 (sk b L τ.1) 103) 8 (sk b L τ.1 + 1)) = fF F 8 (sk b L τ.1 + 1) := by
        show fF (fF F 8 (sk b L τ.1)) 8 (sk b L τ.1 + 1) = _
        rw [fF_fF]
      rw [this]
    by_cases y1 : byt b L (sk b L τ.1) = 43
    · refine go 43 28 2 y1 rfl rfl (by omega) rfl (by omega) (by omega) (by decide) (by decide) (fun ta => ?_)
      rw [y1] at se
      have sL : sk b L τ.1 < L := by
        by_cases q : sk b L τ.1 < L
        · exact q
        · rw [byt_out (by omega)] at y1; omega
      rw [sX11_sum_9]
      simp (disch := omega) only [eX11_sum, sX11_sum_0, sX11_sum_1, sX11_sum_4, sX11_sum_7, sX11_sum_8, sX11_sum_10, sX11_sum_13, sX11_sum_15, sX11_sum_18, sX11_sum_19, sX11_sum_22, sX11_sum_24, sX11_sum_27, sX11_sum_28, sX11_sum_31, sX11_sum_32, sX11_sum_35, sX11_sum_36, sX11_sum_38, sX11_sum_41, sX11_sum_42, sX11_sum_45, sX11_sum_46, sX11_sum_47, sX11_sum_48, sX11_sum_49, sX11_sum_52, sX11_sum_53, sX11_sum_54, sX11_sum_58, sX11_sum_61, sX11_sum_64, sX11_sum_65, sX11_sum_66, sX11_sum_67, sX11_sum_68, sX11_sum_69, sX11_sum_72, sX11_sum_75, sX11_sum_76, ↓hk103, ↓hf103_0, ↓hf103_8, ↓hg104, ↓hp103_8, ↓bndi_at se, e8, ta, i32_of, ↓if_pos, ↓if_neg, not_true_eq_false, ↓reduceIte]
      rw [pt]
    · by_cases y2 : byt b L (sk b L τ.1) = 45
      · refine go 45 29 3 y2 rfl rfl (by omega) rfl (by omega) (by omega) (by decide) (by decide) (fun ta => ?_)
        rw [y2] at se se2
        have sL : sk b L τ.1 < L := by
          by_cases q : sk b L τ.1 < L
          · exact q
          · rw [byt_out (by omega)] at y2; omega
        rw [sX11_sum_9]
        simp (disch := omega) only [eX11_sum, sX11_sum_0, sX11_sum_1, sX11_sum_4, sX11_sum_7, sX11_sum_8, sX11_sum_10, sX11_sum_13, sX11_sum_15, sX11_sum_18, sX11_sum_19, sX11_sum_22, sX11_sum_24, sX11_sum_27, sX11_sum_28, sX11_sum_31, sX11_sum_32, sX11_sum_35, sX11_sum_36, sX11_sum_38, sX11_sum_41, sX11_sum_42, sX11_sum_45, sX11_sum_46, sX11_sum_47, sX11_sum_48, sX11_sum_49, sX11_sum_52, sX11_sum_53, sX11_sum_54, sX11_sum_58, sX11_sum_61, sX11_sum_64, sX11_sum_65, sX11_sum_66, sX11_sum_67, sX11_sum_68, sX11_sum_69, sX11_sum_72, sX11_sum_75, sX11_sum_76, ↓hk103, ↓hf103_0, ↓hf103_8, ↓hg104, ↓hp103_8, ↓bndi_at se, ↓bndi_at se2, e8, ta, i32_of, ↓if_pos, ↓if_neg, not_true_eq_false, ↓reduceIte]
        rw [pt]
      · refine ⟨A, fF F 8 (sk b L τ.1), pf0_f (Or.inl rfl), Or.inl ⟨0, τ, lag, S, C, rfl, ?_, ⟨⟨tm1, ⟨by rw [e8]; omega, by rw [e8]; exact si⟩, by rw [fF_n (by omega)]; exact h9, by rw [fF_n (by omega)]; exact h11, by rw [fF_n (by omega)]; exact h12, h6, hM⟩, e1, e2, e3, ck⟩, hl, hS, nS, hvk, hnt, y1, y2⟩⟩
        rw [sX11_sum_9]
        simp (disch := omega) only [eX11_sum, sX11_sum_0, sX11_sum_1, sX11_sum_4, sX11_sum_7, sX11_sum_8, sX11_sum_10, sX11_sum_13, sX11_sum_15, sX11_sum_18, sX11_sum_19, sX11_sum_22, sX11_sum_24, sX11_sum_27, sX11_sum_28, sX11_sum_31, sX11_sum_32, sX11_sum_35, sX11_sum_36, sX11_sum_38, sX11_sum_41, sX11_sum_42, sX11_sum_45, sX11_sum_46, sX11_sum_47, sX11_sum_48, sX11_sum_49, sX11_sum_52, sX11_sum_53, sX11_sum_54, sX11_sum_58, sX11_sum_61, sX11_sum_64, sX11_sum_65, sX11_sum_66, sX11_sum_67, sX11_sum_68, sX11_sum_69, sX11_sum_72, sX11_sum_75, sX11_sum_76, ↓hk103, ↓bndi_at se, ↓bndi_at se2, ↓if_neg y1, ↓if_pos y2, ↓if_pos, ↓if_neg, ↓reduceIte, or_true]
theorem m_sum (ms : MS A F b L t g σ.1 C σ.2.2.2.2) (ht : t < 6) (hO : σ.2.2.1 = C ++ O0) (hW : σ.2.2.2.1 = w) (hg : g ≤ O0.length) (c : cok L σ) (en : ent b L σ v) (hw : ∀ o r, w = o :: r → rkf o < 5) : ∃ A' F', pf0 A F A' F' t g ∧ ((∃ n ρ lag2 S2 C2, crn b L n σ ρ ∧ σ.1 + 1 ≤ ρ.1 ∧ cl mX11_sum [vr 103] (HP A F E) = some (vi 1, HP A' F' E) ∧ BV A' F' b L t g ρ C2 lag2 w O0 ∧ (∀ o, o ∈ lag2 → 28 ≤ o ∧ o ≤ 32) ∧ lag2.reverse ++ C2 = S2 ++ C ∧ nseg S2 ∧ vk v ρ.2.2.2.2 (v 10) ∧ ((byt b L (sk b L ρ.1) ≠ 42 ∧ byt b L (sk b L ρ.1) ≠ 47 ∧ byt b L (sk b L ρ.1) ≠ 37) ∧ byt b L (sk b L ρ.1) ≠ 43 ∧ byt b L (sk b L ρ.1) ≠ 45)) ∨ (flt b L σ F' ∧ cl mX11_sum [vr 103] (HP A F E) = some (vi 0, HP A' F' E))) := by
  have hb := ms.1.2.2.1
  obtain ⟨A1, F1, f1, ⟨n, ρ, lag2, S2, C2, c1, c1', c2, c3, c4, c5, c6, c7', c8⟩ | ⟨c1, c2⟩⟩ := m_term (E := E) ms ht hO hW hg c en (fun o r q => by have := hw o r q; omega)
  · have bl := BV_len c3 hg
    have cx := c3.2.2.2.2.2.1
    obtain ⟨A2, F2, i1, i2⟩ := m_sum_l (E := E) (M0 := C) ht hg hw 500 A1 F1 ρ C2 lag2 S2 vn (by omega) c3 (fun o q => by have := c4 o q; omega) c5 c6 c7' c8
    have run : cl mX11_sum [vr 103] (HP A F E) = rn mX11_sum 9 [vr 103, vn] [] (HP A1 F1 E) := by
      simp (disch := omega) only [eX11_sum, sX11_sum_0, sX11_sum_1, sX11_sum_4, sX11_sum_7, sX11_sum_8, sX11_sum_10, sX11_sum_13, sX11_sum_15, sX11_sum_18, sX11_sum_19, sX11_sum_22, sX11_sum_24, sX11_sum_27, sX11_sum_28, sX11_sum_31, sX11_sum_32, sX11_sum_35, sX11_sum_36, sX11_sum_38, sX11_sum_41, sX11_sum_42, sX11_sum_45, sX11_sum_46, sX11_sum_47, sX11_sum_48, sX11_sum_49, sX11_sum_52, sX11_sum_53, sX11_sum_54, sX11_sum_57, sX11_sum_58, sX11_sum_61, sX11_sum_64, sX11_sum_65, sX11_sum_66, sX11_sum_67, sX11_sum_68, sX11_sum_69, sX11_sum_72, sX11_sum_75, sX11_sum_76, ↓hk103, ↓bndi_at c2, ↓if_pos, ↓if_neg]
    refine ⟨A2, F2, pf0_t f1 i1, ?_⟩
    rcases i2 with ⟨n', ρ', lag3, S3, C3, j1, j2, j3⟩ | ⟨j1, j2⟩
    · have pl := (crn_ok hb n' ρ ρ' c3.2.2.2.2 j1).2
      exact Or.inl ⟨n + n', ρ', lag3, S3, C3, crn_t n n' σ ρ ρ' c1 j1, by omega, by rw [run]; exact j2, j3⟩
    · exact Or.inr ⟨flt_t c1 j1, by rw [run]; exact j2⟩
  · refine ⟨A1, F1, f1, Or.inr ⟨c1, ?_⟩⟩
    simp (disch := omega) only [eX11_sum, sX11_sum_0, sX11_sum_1, sX11_sum_4, sX11_sum_7, sX11_sum_8, sX11_sum_10, sX11_sum_13, sX11_sum_15, sX11_sum_18, sX11_sum_19, sX11_sum_22, sX11_sum_24, sX11_sum_27, sX11_sum_28, sX11_sum_31, sX11_sum_32, sX11_sum_35, sX11_sum_36, sX11_sum_38, sX11_sum_41, sX11_sum_42, sX11_sum_45, sX11_sum_46, sX11_sum_47, sX11_sum_48, sX11_sum_49, sX11_sum_52, sX11_sum_53, sX11_sum_54, sX11_sum_57, sX11_sum_58, sX11_sum_61, sX11_sum_64, sX11_sum_65, sX11_sum_66, sX11_sum_67, sX11_sum_68, sX11_sum_69, sX11_sum_72, sX11_sum_75, sX11_sum_76, ↓hk103, ↓bndi_at c2, ↓if_pos, ↓if_neg, ↓reduceIte, true_or]
end SU
