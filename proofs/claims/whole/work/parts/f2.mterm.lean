/-! terms and sums, in both -/
def n22 : List Int → Int
  | [] => 0
  | o :: W => n22 W + (if o = 22 then 1 else 0)
theorem stl2_lag {rk : Int} : ∀ (lag w O : List Int), (∀ o, o ∈ lag → rk ≤ rkf o) → (∀ o r, w = o :: r → rkf o < rk) → stl2 rk (lag ++ w) O = (lag.reverse ++ O, w, n22 lag)
  | [], w, O, _, h2 => by
    rw [List.nil_append, List.reverse_nil, List.nil_append]
    cases w with
    | nil => rfl
    | cons o r => rw [stl2, if_pos (h2 o r rfl)]; rfl
  | o :: lag, w, O, h1, h2 => by
    have q := h1 o (List.mem_cons_self ..)
    rw [List.cons_append, stl2, if_neg (by omega), stl2_lag lag w (o :: O) (fun p hp => h1 p (List.mem_cons_of_mem _ hp)) h2, List.reverse_cons, List.append_assoc, n22]
    rfl
theorem n22_0 : ∀ lag : List Int, (∀ o, o ∈ lag → o ≠ 22) → n22 lag = 0
  | [], _ => rfl
  | o :: lag, h => by rw [n22, n22_0 lag (fun p hp => h p (List.mem_cons_of_mem _ hp)), if_neg (h o (List.mem_cons_self ..))]; rfl
/-- a fault: some tokens on, the class refuses one, and the model says so -/
def flt (b : Nat → Int) (L : Int) (σ : zS) (F : Nat → Nat → Int) : Prop := ∃ n τ, crn b L n σ τ ∧ (tkr b L τ).1 ≠ -1 ∧ F 103 9 = 1 + 8 * (tkx b L τ).2.1 + (tkr b L τ).1
theorem flt_t {b : Nat → Int} {L : Int} {σ τ : zS} {F : Nat → Nat → Int} {n : Nat} (r : crn b L n σ τ) (h : flt b L τ F) : flt b L σ F := by
  obtain ⟨m, ρ, h1, h2, h3⟩ := h
  exact ⟨n + m, ρ, crn_t n m σ τ ρ r h1, h2, h3⟩
/-- what a sum leaves of the reader's numbers -/
def vk (v v' : Nat → Int) (z : Int) : Prop := v' 5 = v 5 ∧ v' 7 = v 7 ∧ v' 8 = v 8 ∧ v' 9 = v 9 ∧ v' 10 = z
/-- behind a value: signs said ahead of those the class still has waiting -/
def BV (A F : Nat → Nat → Int) (b : Nat → Int) (L : Int) (t g : Nat) (τ : zS) (C lag w O0 : List Int) : Prop := MS A F b L t g τ.1 (lag.reverse ++ C) τ.2.2.2.2 ∧ τ.2.2.1 = C ++ O0 ∧ τ.2.2.2.1 = lag ++ w ∧ τ.2.2.2.2 4 = 3 ∧ cok L τ
section TE
variable {A F : Nat → Nat → Int} {E : zE} {b : Nat → Int} {L : Int} {t g : Nat} {C O0 lag w S M0 : List Int} {τ : zS}
/-- an operator's token behind a value -/
theorem op_tok {ch op : Int} (bv : BV A F b L t g τ C lag w O0) (hc : byt b L (sk b L τ.1) = ch) (ho : opf ch = op) (h8 : 28 ≤ op) (c0 : 0 ≤ ch ∧ ch < 256 ∧ ch ≠ 60 ∧ ch ≠ 62) (cd : dgt ch = false) (cl' : ltr ch = false) (hl : ∀ o, o ∈ lag → rkf op ≤ rkf o) (hn : ∀ o, o ∈ lag → o ≠ 22) (hw : ∀ o r, w = o :: r → rkf o < rkf op) : crn b L 1 τ (nxs b L τ) ∧ (nxs b L τ).1 = sk b L τ.1 + 1 ∧ (nxs b L τ).2.2.1 = lag.reverse ++ C ++ O0 ∧ (nxs b L τ).2.2.2.1 = op :: w ∧ (nxs b L τ).2.2.2.2 = fup (fup τ.2.2.2.2 7 (τ.2.2.2.2 7)) 4 1 ∧ cok L (nxs b L τ) := by
  obtain ⟨ms, e1, e2, e3, ck⟩ := bv
  have hb := ms.1.2.2.1
  have tk := tok_k (k := ch) (va := τ.2.1) hb ck.2.1.1 ck.2.1.2 ⟨c0.1, c0.2.1⟩ c0.2.2 cd cl'
  have kx : (tkx b L τ).2.2.1 = ch := tk.1.mpr hc
  have px : (tkx b L τ).1 = sk b L τ.1 + 1 := tk.2 hc
  have tr : tkr b L τ = (-1, lag.reverse ++ C ++ O0, op :: w, fup (fup τ.2.2.2.2 7 (τ.2.2.2.2 7)) 4 1) := by
    unfold tkr tkS
    rw [if_neg (by omega), if_neg (by omega), if_neg (by omega), if_pos e3]
    unfold tkBV
    rw [kx, ho, if_pos h8, e1, e2, stl2_lag lag w (C ++ O0) hl hw, n22_0 lag hn, Int.sub_zero, List.append_assoc]
  have w1 : (tkr b L τ).1 = -1 := by rw [tr]
  have nk := nxs_ok hb ck w1
  refine ⟨crn_1 w1 (by rw [kx]; omega), px, ?_, ?_, ?_, nk.1⟩
  · show (tkr b L τ).2.1 = _; rw [tr]
  · show (tkr b L τ).2.2.1 = _; rw [tr]
  · show (tkr b L τ).2.2.2 = _; rw [tr]
/-- the model's place moved on behind a sign *)-/
theorem MS_nx {v' : Nat → Int} {x' : Int} {M : List Int} (ms : MS A F b L t g τ.1 M τ.2.2.2.2) (hx : x' = sk b L τ.1 + 1) (h6 : v' 6 = τ.2.2.2.2 6) (hL : 0 ≤ x' ∧ x' ≤ L) : MS A (fF F 8 x') b L t g x' M v' := by
  obtain ⟨m1, m2, m3, m4, m5, m6, m7⟩ := ms
  exact ⟨TM_f m1 (by omega), plc_i fF_s hL, by rw [fF_n (by omega)]; exact m3, by rw [fF_n (by omega)]; exact m4, by rw [fF_n (by omega), h6]; exact m5, m6, m7⟩
theorem t4s {s : Int} (tm : TM A F b L) (s0 : 0 ≤ s) (s1 : s < L) (h : b s.toNat < 128) : A 104 s.toNat = b s.toNat := by
  rw [tm.2.2.2 s.toNat (by omega)]; unfold sby; rw [if_pos h]
theorem m_term_l (ht : t < 6) (hg : g ≤ O0.length) (hw : ∀ o r, w = o :: r → rkf o < 6) {v0 : Nat → Int} {z10 : Int} : ∀ (m : Nat) (A F : Nat → Nat → Int) (τ : zS) (C lag S : List Int) (x1 : zV), L - τ.1 < (m : Int) → BV A F b L t g τ C lag w O0 → (∀ o, o ∈ lag → 30 ≤ o ∧ o ≤ 32) → lag.reverse ++ C = S ++ M0 → nseg S → vk v0 τ.2.2.2.2 z10 → ∃ A' F', pf0 A F A' F' t g ∧ ((∃ n ρ lag2 S2 C2, crn b L n τ ρ ∧ rn mX11_term 9 [vr 103, x1] [] (HP A F E) = some (vi 1, HP A' F' E) ∧ BV A' F' b L t g ρ C2 lag2 w O0 ∧ (∀ o, o ∈ lag2 → 30 ≤ o ∧ o ≤ 32) ∧ lag2.reverse ++ C2 = S2 ++ M0 ∧ nseg S2 ∧ vk v0 ρ.2.2.2.2 z10 ∧ (byt b L (sk b L ρ.1) ≠ 42 ∧ byt b L (sk b L ρ.1) ≠ 47 ∧ byt b L (sk b L ρ.1) ≠ 37)) ∨ (flt b L τ F' ∧ rn mX11_term 9 [vr 103, x1] [] (HP A F E) = some (vi 0, HP A' F' E))) := by
  intro m
  induction m with
  | zero =>
    intro A F τ C lag S x1 hm bv
    have := bv.2.2.2.2.2.1
    omega
  | succ m ih =>
    intro A F τ C lag S x1 hm bv hl hS nS hvk
    obtain ⟨ms, e1, e2, e3, ck⟩ := id bv
    obtain ⟨tm, pc, h9, h11, h12, h6, hM⟩ := id ms
    have L4 := tm.2.1
    have hb := tm.2.2.1
    have cx := ck.2.1
    have kb := sk_b (b := b) cx.2
    have si := sk_id (b := b) (L := L) cx.1 cx.2
    have se := m_see (E := E) tm rfl pc.1.1 pc.1.2
    rw [pc.2] at se
    have tm1 : TM A (fF F 8 (sk b L τ.1)) b L := TM_f tm (by omega)
    have se2 := m_see (E := E) (p := sk b L τ.1) tm1 fF_s (by omega) kb.2
    rw [si, fF_fF] at se2
    have e8 : fF F 8 (sk b L τ.1) 103 8 = sk b L τ.1 := fF_s
    -- an operator
    have go : ∀ (ch op sg : Int), byt b L (sk b L τ.1) = ch → opf ch = op → rkf op = 6 → (30 ≤ op ∧ op ≤ 32) → enc op = sg → (0 ≤ sg ∧ sg ≤ 15) → (0 ≤ ch ∧ ch < 128 ∧ ch ≠ 60 ∧ ch ≠ 62) → dgt ch = false → ltr ch = false → (A 104 (sk b L τ.1).toNat = ch → rn mX11_term 9 [vr 103, x1] [] (HP A F E) = rn mX11_term 85 [vr 103, vi sg] [] (HP A (fF F 8 (sk b L τ.1 + 1)) E)) → ∃ A' F', pf0 A F A' F' t g ∧ ((∃ n ρ lag2 S2 C2, crn b L n τ ρ ∧ rn mX11_term 9 [vr 103, x1] [] (HP A F E) = some (vi 1, HP A' F' E) ∧ BV A' F' b L t g ρ C2 lag2 w O0 ∧ (∀ o, o ∈ lag2 → 30 ≤ o ∧ o ≤ 32) ∧ lag2.reverse ++ C2 = S2 ++ M0 ∧ nseg S2 ∧ vk v0 ρ.2.2.2.2 z10 ∧ (byt b L (sk b L ρ.1) ≠ 42 ∧ byt b L (sk b L ρ.1) ≠ 47 ∧ byt b L (sk b L ρ.1) ≠ 37)) ∨ (flt b L τ F' ∧ rn mX11_term 9 [vr 103, x1] [] (HP A F E) = some (vi 0, HP A' F' E))) := by
      intro ch op sg hc ho h6' h32 hsg hsg2 c0 cd cl' hrun
      have sL : sk b L τ.1 < L := by
        by_cases q : sk b L τ.1 < L
        · exact q
        · rw [byt_out (by omega)] at hc; omega
      have hc2 : b (sk b L τ.1).toNat = ch := by rw [← hc, byt_in (by omega) sL]
      have run := hrun (by rw [t4s tm (by omega) sL (by omega)]; exact hc2)
      have lg6 : ∀ o, o ∈ lag → rkf op ≤ rkf o := fun o q => by
        have := hl o q
        rw [h6']; unfold rkf
        rw [if_neg (by omega), if_neg (by omega), if_neg (by omega), if_neg (by omega)]
        exact Int.le_refl _
      obtain ⟨o1, o2, o3, o4, o5, o6⟩ := op_tok bv hc ho (by omega) ⟨c0.1, by omega, c0.2.2⟩ cd cl' lg6 (fun o q => by have := hl o q; omega) (fun o r q => by rw [h6']; exact hw o r q)
      generalize hτ1 : nxs b L τ = τ1 at *
      have v16 : τ1.2.2.2.2 6 = τ.2.2.2.2 6 := by rw [o5, fup_n (by omega), fup_n (by omega)]
      have v14 : τ1.2.2.2.2 4 = 1 := by rw [o5, fup_s]
      have ms1 := MS_nx (v' := τ1.2.2.2.2) (x' := sk b L τ.1 + 1) ms rfl v16 (by omega)
      rw [← o2] at ms1 run
      have trv : tkr b L τ1 = tkVal (tkx b L τ1).2.2.1 (tkx b L τ1).2.2.2 b L (tkx b L τ1).2.1 τ1.2.2.1 τ1.2.2.2.1 τ1.2.2.2.2 := by
        unfold tkr tkS
        rw [if_neg (by omega), if_pos v14]
      obtain ⟨A1, F1, f1, ⟨c, c1, c2, c3, c4, c5, c6, c7', c8⟩ | ⟨c1, c2, c3⟩⟩ := m_value (E := E) (v := τ1.2.2.2.2) ms1 ht (by rw [o3]) hg o6 trv (by omega) rfl
      · obtain ⟨q1, q2', q3, q4', q5, q6', q7⟩ := id c5
        have ck2 := nxs_ok hb o6 c2
        have ln := ck2.1.1.2.2.2.2.2.1
        have cx2 := ck2.1.2.1
        rw [c6, c7', o4, List.length_append, List.length_cons (a := op)] at ln
        have cl2 : (c :: (lag.reverse ++ C)).length + g ≤ 398 := by
          rw [c8, fup_n (by omega), fup_s, if_neg (by omega)] at ln
          omega
        obtain ⟨A2, p1, p2, p3, p4⟩ := m_puts (F := F1) (E := E) (s := sg) (w := 0) (o := op) q4' ht q6' (by omega) q7 hsg2 (by omega) (by rw [hsg]; omega)
        have bv2 : BV A2 F1 b L t g (nxs b L τ1) (c :: (lag.reverse ++ C)) [op] w O0 := by
          refine ⟨⟨TM_a q1 (p2.1 104 (by omega) (by omega)), q2', q3, q4', q5, p3, p4⟩, c6, by rw [c7', o4]; rfl, by rw [c8, fup_n (by omega), fup_s], ck2.1⟩
        have pl1 := (nxs_ok hb ck (by have := o1.1; exact this)).2.2
        have vk2 : vk v0 (nxs b L τ1).2.2.2.2 z10 := by
          rw [c8, o5]
          unfold vk at *
          simp (disch := omega) only [fup_n, fup_s]
          exact hvk
        obtain ⟨A3, F3, i1, i2⟩ := ih A2 F1 (nxs b L τ1) (c :: (lag.reverse ++ C)) [op] (op :: ([c] ++ S)) (vi sg) (by have := ck2.2.1; omega) bv2 (fun o q => by rw [List.mem_singleton.mp q]; exact h32) (by rw [hS]; rfl) (nseg_o nS (nseg_v (by omega)) (by omega)) vk2
        have run2 : rn mX11_term 9 [vr 103, x1] [] (HP A F E) = rn mX11_term 9 [vr 103, vi sg] [] (HP A2 F1 E) := by
          rw [run]
          simp (disch := omega) only [eX11_term, sX11_term_0, sX11_term_1, sX11_term_4, sX11_term_7, sX11_term_8, sX11_term_10, sX11_term_13, sX11_term_15, sX11_term_18, sX11_term_19, sX11_term_22, sX11_term_24, sX11_term_27, sX11_term_28, sX11_term_31, sX11_term_33, sX11_term_36, sX11_term_37, sX11_term_40, sX11_term_41, sX11_term_44, sX11_term_45, sX11_term_47, sX11_term_50, sX11_term_51, sX11_term_54, sX11_term_55, sX11_term_58, sX11_term_59, sX11_term_62, sX11_term_63, sX11_term_65, sX11_term_68, sX11_term_69, sX11_term_72, sX11_term_74, sX11_term_75, sX11_term_76, sX11_term_77, sX11_term_80, sX11_term_81, sX11_term_82, sX11_term_85, sX11_term_86, sX11_term_89, sX11_term_92, sX11_term_93, sX11_term_94, sX11_term_95, sX11_term_96, sX11_term_97, sX11_term_100, sX11_term_103, sX11_term_104, ↓hk103, ↓bndi_at c4, ↓bndv_at p1, ↓if_pos, ↓if_neg]
        have r2 : crn b L 2 τ (nxs b L τ1) := crn_t 1 1 τ τ1 _ o1 (crn_1 c2 c3)
        refine ⟨A3, F3, pf0_t (pf0_t (pf0_t (pf0_f (Or.inl rfl)) f1) p2) i1, ?_⟩
        rcases i2 with ⟨n, ρ, lag2, S2, C2, j1, j2, j3⟩ | ⟨j1, j2⟩
        · exact Or.inl ⟨2 + n, ρ, lag2, S2, C2, crn_t 2 n τ _ ρ r2 j1, by rw [run2]; exact j2, j3⟩
        · exact Or.inr ⟨flt_t r2 j1, by rw [run2]; exact j2⟩
      · refine ⟨A1, F1, pf0_t (pf0_f (Or.inl rfl)) f1, Or.inr ⟨⟨1, τ1, o1, c1, c3⟩, ?_⟩⟩
        rw [run]
        simp (disch := omega) only [eX11_term, sX11_term_0, sX11_term_1, sX11_term_4, sX11_term_7, sX11_term_8, sX11_term_10, sX11_term_13, sX11_term_15, sX11_term_18, sX11_term_19, sX11_term_22, sX11_term_24, sX11_term_27, sX11_term_28, sX11_term_31, sX11_term_33, sX11_term_36, sX11_term_37, sX11_term_40, sX11_term_41, sX11_term_44, sX11_term_45, sX11_term_47, sX11_term_50, sX11_term_51, sX11_term_54, sX11_term_55, sX11_term_58, sX11_term_59, sX11_term_62, sX11_term_63, sX11_term_65, sX11_term_68, sX11_term_69, sX11_term_72, sX11_term_74, sX11_term_75, sX11_term_76, sX11_term_77, sX11_term_80, sX11_term_81, sX11_term_82, sX11_term_85, sX11_term_86, sX11_term_89, sX11_term_92, sX11_term_93, sX11_term_94, sX11_term_95, sX11_term_96, sX11_term_97, sX11_term_100, sX11_term_103, sX11_term_104, ↓hk103, ↓bndi_at c2, ↓if_pos, ↓if_neg, ↓reduceIte, true_or]
    have pt : ∀ L' st, rn mX11_term 85 L' st (HP A (aup (fF F 8 (sk b L τ.1)) 103 (fup (fF F 8 (sk b L τ.1) 103) 8 (sk b L τ.1 + 1))) E) = rn mX11_term 85 L' st (HP A (fF F 8 (sk b L τ.1 + 1)) E) := fun L' st => by
      have : aup (fF F 8 (sk b L τ.1)) 103 (fup (fF F 8 (sk b L τ.1) 103) 8 (sk b L τ.1 + 1)) = fF F 8 (sk b L τ.1 + 1) := by
        show fF (fF F 8 (sk b L τ.1)) 8 (sk b L τ.1 + 1) = _
        rw [fF_fF]
      rw [this]
    by_cases y1 : byt b L (sk b L τ.1) = 42
    · refine go 42 30 4 y1 rfl rfl (by omega) rfl (by omega) (by omega) (by decide) (by decide) (fun ta => ?_)
      rw [y1] at se
      have sL : sk b L τ.1 < L := by
        by_cases q : sk b L τ.1 < L
        · exact q
        · rw [byt_out (by omega)] at y1; omega
      rw [sX11_term_9]
      simp (disch := omega) only [eX11_term, sX11_term_0, sX11_term_1, sX11_term_4, sX11_term_7, sX11_term_8, sX11_term_10, sX11_term_13, sX11_term_15, sX11_term_18, sX11_term_19, sX11_term_22, sX11_term_24, sX11_term_27, sX11_term_28, sX11_term_31, sX11_term_33, sX11_term_36, sX11_term_37, sX11_term_40, sX11_term_41, sX11_term_44, sX11_term_45, sX11_term_47, sX11_term_50, sX11_term_51, sX11_term_54, sX11_term_55, sX11_term_58, sX11_term_59, sX11_term_62, sX11_term_63, sX11_term_65, sX11_term_68, sX11_term_69, sX11_term_72, sX11_term_74, sX11_term_75, sX11_term_76, sX11_term_77, sX11_term_80, sX11_term_81, sX11_term_82, sX11_term_86, sX11_term_89, sX11_term_92, sX11_term_93, sX11_term_94, sX11_term_95, sX11_term_96, sX11_term_97, sX11_term_100, sX11_term_103, sX11_term_104, ↓hk103, ↓hf103_0, ↓hf103_8, ↓hg104, ↓hp103_8, ↓bndi_at se, e8, ta, i32_of, ↓if_pos, ↓if_neg, not_true_eq_false, ↓reduceIte]
      rw [pt]
    · by_cases y2 : byt b L (sk b L τ.1) = 47
      · refine go 47 31 5 y2 rfl rfl (by omega) rfl (by omega) (by omega) (by decide) (by decide) (fun ta => ?_)
        rw [y2] at se se2
        have sL : sk b L τ.1 < L := by
          by_cases q : sk b L τ.1 < L
          · exact q
          · rw [byt_out (by omega)] at y2; omega
        rw [sX11_term_9]
        simp (disch := omega) only [eX11_term, sX11_term_0, sX11_term_1, sX11_term_4, sX11_term_7, sX11_term_8, sX11_term_10, sX11_term_13, sX11_term_15, sX11_term_18, sX11_term_19, sX11_term_22, sX11_term_24, sX11_term_27, sX11_term_28, sX11_term_31, sX11_term_33, sX11_term_36, sX11_term_37, sX11_term_40, sX11_term_41, sX11_term_44, sX11_term_45, sX11_term_47, sX11_term_50, sX11_term_51, sX11_term_54, sX11_term_55, sX11_term_58, sX11_term_59, sX11_term_62, sX11_term_63, sX11_term_65, sX11_term_68, sX11_term_69, sX11_term_72, sX11_term_74, sX11_term_75, sX11_term_76, sX11_term_77, sX11_term_80, sX11_term_81, sX11_term_82, sX11_term_86, sX11_term_89, sX11_term_92, sX11_term_93, sX11_term_94, sX11_term_95, sX11_term_96, sX11_term_97, sX11_term_100, sX11_term_103, sX11_term_104, ↓hk103, ↓hf103_0, ↓hf103_8, ↓hg104, ↓hp103_8, ↓bndi_at se, ↓bndi_at se2, e8, ta, i32_of, ↓if_pos, ↓if_neg, not_true_eq_false, ↓reduceIte]
        rw [pt]
      · by_cases y3 : byt b L (sk b L τ.1) = 37
        · refine go 37 32 14 y3 rfl rfl (by omega) rfl (by omega) (by omega) (by decide) (by decide) (fun ta => ?_)
          rw [y3] at se se2
          have sL : sk b L τ.1 < L := by
            by_cases q : sk b L τ.1 < L
            · exact q
            · rw [byt_out (by omega)] at y3; omega
          rw [sX11_term_9]
          simp (disch := omega) only [eX11_term, sX11_term_0, sX11_term_1, sX11_term_4, sX11_term_7, sX11_term_8, sX11_term_10, sX11_term_13, sX11_term_15, sX11_term_18, sX11_term_19, sX11_term_22, sX11_term_24, sX11_term_27, sX11_term_28, sX11_term_31, sX11_term_33, sX11_term_36, sX11_term_37, sX11_term_40, sX11_term_41, sX11_term_44, sX11_term_45, sX11_term_47, sX11_term_50, sX11_term_51, sX11_term_54, sX11_term_55, sX11_term_58, sX11_term_59, sX11_term_62, sX11_term_63, sX11_term_65, sX11_term_68, sX11_term_69, sX11_term_72, sX11_term_74, sX11_term_75, sX11_term_76, sX11_term_77, sX11_term_80, sX11_term_81, sX11_term_82, sX11_term_86, sX11_term_89, sX11_term_92, sX11_term_93, sX11_term_94, sX11_term_95, sX11_term_96, sX11_term_97, sX11_term_100, sX11_term_103, sX11_term_104, ↓hk103, ↓hf103_0, ↓hf103_8, ↓hg104, ↓hp103_8, ↓bndi_at se, ↓bndi_at se2, e8, ta, i32_of, ↓if_pos, ↓if_neg, not_true_eq_false, ↓reduceIte]
          rw [pt]
        · refine ⟨A, fF F 8 (sk b L τ.1), pf0_f (Or.inl rfl), Or.inl ⟨0, τ, lag, S, C, rfl, ?_, ⟨⟨tm1, ⟨by rw [e8]; omega, by rw [e8]; exact si⟩, by rw [fF_n (by omega)]; exact h9, by rw [fF_n (by omega)]; exact h11, by rw [fF_n (by omega)]; exact h12, h6, hM⟩, e1, e2, e3, ck⟩, hl, hS, nS, hvk, y1, y2, y3⟩⟩
          rw [sX11_term_9]
          simp (disch := omega) only [eX11_term, sX11_term_0, sX11_term_1, sX11_term_4, sX11_term_7, sX11_term_8, sX11_term_10, sX11_term_13, sX11_term_15, sX11_term_18, sX11_term_19, sX11_term_22, sX11_term_24, sX11_term_27, sX11_term_28, sX11_term_31, sX11_term_33, sX11_term_36, sX11_term_37, sX11_term_40, sX11_term_41, sX11_term_44, sX11_term_45, sX11_term_47, sX11_term_50, sX11_term_51, sX11_term_54, sX11_term_55, sX11_term_58, sX11_term_59, sX11_term_62, sX11_term_63, sX11_term_65, sX11_term_68, sX11_term_69, sX11_term_72, sX11_term_74, sX11_term_75, sX11_term_76, sX11_term_77, sX11_term_80, sX11_term_81, sX11_term_82, sX11_term_86, sX11_term_89, sX11_term_92, sX11_term_93, sX11_term_94, sX11_term_95, sX11_term_96, sX11_term_97, sX11_term_100, sX11_term_103, sX11_term_104, ↓hk103, ↓bndi_at se, ↓bndi_at se2, ↓if_neg y1, ↓if_neg y2, ↓if_pos y3, ↓if_pos, ↓if_neg, ↓reduceIte, or_true]
end TE
