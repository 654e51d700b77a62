/-! tests, in both -/
theorem c50_a : ∀ q r : List Int, c50 (q ++ r) = c50 q + c50 r
  | [], r => by rw [List.nil_append, c50]; omega
  | o :: q, r => by rw [List.cons_append, c50, c50, c50_a q r]; omega
theorem c50_n : ∀ q : List Int, (∀ o, o ∈ q → o ≠ 50) → c50 q = 0
  | [], _ => rfl
  | o :: q, h => by rw [c50, c50_n q (fun p hp => h p (List.mem_cons_of_mem _ hp)), if_neg (h o (List.mem_cons_self ..))]; rfl
theorem c7_lag : ∀ q r : List Int, c7 (q ++ r) = c7 q + c7 r
  | [], r => by rw [List.nil_append, c7]; omega
  | o :: q, r => by rw [List.cons_append, c7, c7, c7_lag q r]; omega
section TT2
variable {A F : Nat → Nat → Int} {E : zE} {b v : Nat → Int} {L : Int} {t g : Nat} {C O0 lag w S M0 T S0 : List Int} {σ τ : zS}
theorem m_closes (ht : t < 6) (hg : g ≤ O0.length) (bf : BF A F b L t g τ C lag w O0 T S0) : ∃ A' F', pf1 A F A' F' t g ∧ ∃ n ρ C2 lag2 w2 T2, crn b L n τ ρ ∧ cl mX11_closes [vr 103] (HP A F E) = some (vn, HP A' F' E) ∧ BF A' F' b L t g ρ C2 lag2 w2 O0 T2 S0 ∧ ρ.2.2.2.2 5 = τ.2.2.2.2 5 ∧ ¬ (byt b L (sk b L ρ.1) = 93 ∧ c50 w2 ≠ 0) ∧ F' 103 8 = sk b L ρ.1 := by
  obtain ⟨A1, F1, p, w2, i1, i2, i3, i4, i5, i6, i7, i8, i9, i10⟩ := bf_lay (E := E) ht hg (le := 3) (by omega) bf
  obtain ⟨ms, e1, e2, ck, os, v9, v4, hl, hT, fs⟩ := id bf
  have bf3 : BF A1 F1 b L t g τ C (lag ++ p) w2 O0 (p.reverse ++ T) S0 := ⟨i5, e1, by rw [e2, i1, List.append_assoc], ck, i4, v9, v4, fun o q => by
    rcases List.mem_append.mp q with q | q
    · exact hl o q
    · have a := i6 o q
      have c : o = 20 ∨ o = 21 ∨ o = 22 := by omega
      rcases c with c | c | c
      · rw [c] at a; exact absurd a.1 (by decide)
      · rw [c] at a; exact absurd a.1 (by decide)
      · omega, i8, i9⟩
  have L4 := ms.1.2.1
  obtain ⟨A2, F2, q1, n, ρ, C2, lag2, w3, T2, r1, r2, r3, r4, r5⟩ := m_clo_l (E := E) ht hg 500 A1 F1 τ C (lag ++ p) w2 (p.reverse ++ T) (by have := ck.2.1; omega) bf3 i7 rfl
  refine ⟨A2, F2, pf1_t i3 q1, n, ρ, C2, lag2, w3, T2, r1, ?_, r3, r4, r5⟩
  rw [← r2]
  simp (disch := omega) only [eX11_closes, sX11_closes_0, sX11_closes_1, sX11_closes_2, sX11_closes_6, sX11_closes_9, sX11_closes_11, sX11_closes_14, sX11_closes_15, sX11_closes_18, sX11_closes_21, sX11_closes_22, sX11_closes_23, sX11_closes_26, sX11_closes_27, sX11_closes_28, sX11_closes_31, sX11_closes_32, sX11_closes_33, sX11_closes_36, sX11_closes_37, sX11_closes_38, sX11_closes_41, sX11_closes_42, sX11_closes_43, sX11_closes_46, sX11_closes_47, sX11_closes_48, sX11_closes_51, sX11_closes_52, sX11_closes_53, sX11_closes_56, sX11_closes_57, sX11_closes_58, sX11_closes_61, sX11_closes_64, ↓hk103, ↓bndv_at i2]
/-- a test read: nothing stands open *)-/
def TD (A F : Nat → Nat → Int) (b : Nat → Int) (L : Int) (t g : Nat) (ρ : zS) (C lag O0 T S0 : List Int) : Prop := MS A F b L t g ρ.1 (lag.reverse ++ C) ρ.2.2.2.2 ∧ ρ.2.2.1 = C ++ O0 ∧ ρ.2.2.2.1 = lag ∧ cok L ρ ∧ ρ.2.2.2.2 9 ≠ 0 ∧ ((ρ.2.2.2.2 4 = 3 ∧ ρ.2.2.2.2 10 ≠ 0 ∧ nar b L ρ) ∨ ρ.2.2.2.2 4 = 4) ∧ (∀ o, o ∈ lag → 20 ≤ o ∧ o ≤ 32) ∧ lag.reverse ++ C = T ++ S0 ∧ fseg 1 T ∧ tkJ b L (sk b L ρ.1) = -1
theorem m_tst_l (ht : t < 6) (hg : g ≤ O0.length) {v5 : Int} : ∀ (m : Nat) (A F : Nat → Nat → Int) (σ : zS) (C w T : List Int) (x2 : zV), L - σ.1 < (m : Int) → MS A F b L t g σ.1 C σ.2.2.2.2 → σ.2.2.1 = C ++ O0 → σ.2.2.2.1 = w → OS A F w → cok L σ → σ.2.2.2.2 4 = 2 → σ.2.2.2.2 9 ≠ 0 → σ.2.2.2.2 7 ≤ 10 → C = T ++ S0 → fseg (nbw w) T → σ.2.2.2.2 5 = v5 → ∃ A' F', pf1 A F A' F' t g ∧ ((∃ n ρ C2 lag T2, crn b L n σ ρ ∧ rn mX11_tested 12 [vr 103, vi 1, x2] [] (HP A F E) = some (vi 1, HP A' F' E) ∧ TD A' F' b L t g ρ C2 lag O0 T2 S0 ∧ ρ.2.2.2.2 5 = v5) ∨ (flt b L σ F' ∧ rn mX11_tested 12 [vr 103, vi 1, x2] [] (HP A F E) = some (vi 0, HP A' F' E))) := by
  intro m
  induction m with
  | zero =>
    intro A F σ C w T x2 hm ms _ _ _ ck
    have := ck.2.1
    omega
  | succ m ih =>
    intro A F σ C w T x2 hm ms hO hW os ck v4 v9 v7 hC hfs h5
    have hb := ms.1.2.2.1
    have L4 := ms.1.2.1
    obtain ⟨A1, F1, f1, ⟨n, ρ, lag2, C2, w2, op, S1, S2, c1, c1', c2, c3, c4, c5, c6, c7', c8, c9, c10, c11, c12⟩ | ⟨c1, c2⟩⟩ := m_fact_l (E := E) ht hg 500 A F σ w vn (by have := ck.2.1; omega) ms hO hW os ck v4 v9 v7
    · have fc : cl mX11_fact [vr 103] (HP A F E) = some (vi 1, HP A1 F1 E) := by rw [← c2]; simp only [eX11_fact, sX11_fact_0, sX11_fact_1, sX11_fact_3, sX11_fact_6, sX11_fact_7, sX11_fact_8, sX11_fact_9, sX11_fact_12, sX11_fact_13, sX11_fact_14, sX11_fact_17, sX11_fact_20, sX11_fact_23, sX11_fact_24, sX11_fact_26, sX11_fact_29, sX11_fact_32, sX11_fact_33, sX11_fact_34, sX11_fact_35, sX11_fact_38, sX11_fact_39, sX11_fact_40, sX11_fact_43, sX11_fact_44, sX11_fact_46, sX11_fact_49, sX11_fact_50, sX11_fact_52, sX11_fact_55, sX11_fact_58, sX11_fact_59, sX11_fact_60, sX11_fact_61, sX11_fact_62, sX11_fact_65, sX11_fact_66, sX11_fact_67, sX11_fact_70, sX11_fact_71, sX11_fact_72, sX11_fact_75, sX11_fact_76, sX11_fact_79]
      obtain ⟨q0, q1, q2', q3, q4'⟩ := id c3
      have bf : BF A1 F1 b L t g ρ C2 lag2 w2 O0 (op :: (S2 ++ S1) ++ T) S0 := ⟨q0, q1, q2', q4', c4, by rw [c11.2.1]; exact v9, Or.inl ⟨q3, by rw [c11.2.2]; omega, c12⟩, fun o q => by have := c6 o q; omega, by rw [c7', hC, List.append_assoc], by rw [c5]; exact fseg_c c8 c9 c10 hfs⟩
      obtain ⟨A2, F2, d1, n2, ρ2, C3, lag3, w3, T2, d2, d3, d4, d5, d6, d7⟩ := m_closes (E := E) ht hg bf
      obtain ⟨ms2, e1, e2, ck2, os2, v92, v42, hl2, hT2, fs2⟩ := id d4
      obtain ⟨tm, pc, h9, h11, h12, h6, hM⟩ := id ms2
      have bl := BF_len d4 hg
      have cx := ck2.2.1
      have kb := sk_b (b := b) cx.2
      have si := sk_id (b := b) (L := L) cx.1 cx.2
      have rr : crn b L (n + n2) σ ρ2 := crn_t n n2 σ ρ ρ2 c1 d2
      have pl := (crn_ok hb n2 ρ ρ2 q4' d2).2
      have v72 := crn_10 (n + n2) σ ρ2 rr v7
      have ts : (tkx b L ρ2).2.1 = sk b L ρ2.1 := (tnx_c (va := ρ2.2.1) hb cx.1 cx.2).1
      have ex : tnx b L ρ2.1 ρ2.2.1 = tkx b L ρ2 := rfl
      have s0 : 0 ≤ sk b L ρ2.1 ∧ sk b L ρ2.1 ≤ L := by omega
      have ia := iw_s (E := E) (w := 6385252) tm d7 s0 si
      have io := iw_s (E := E) (w := 28530) tm d7 s0 si
      have tJ : tkJ b L (sk b L ρ2.1) = (if wdH b L (sk b L ρ2.1) 28530 then 0 else if wdH b L (sk b L ρ2.1) 6385252 then 1 else -1) := rfl
      have btk := bf_tk d4
      -- and, or
      have go : ∀ (op sg : Int), (op = 20 ∧ sg = 13 ∨ op = 21 ∧ sg = 12) → jop b L (sk b L ρ2.1) = op → tkJ b L (sk b L ρ2.1) ≠ -1 → (tkx b L ρ2).2.2.1 = -3 → (tkx b L ρ2).1 = wde b L (sk b L ρ2.1) → rn mX11_tested 12 [vr 103, vi 1, x2] [] (HP A F E) = rn mX11_tested 76 [vr 103, vi 1, x2] [vi sg] (HP A2 F2 E) → ∃ A' F', pf1 A F A' F' t g ∧ ((∃ n ρ C2 lag T2, crn b L n σ ρ ∧ rn mX11_tested 12 [vr 103, vi 1, x2] [] (HP A F E) = some (vi 1, HP A' F' E) ∧ TD A' F' b L t g ρ C2 lag O0 T2 S0 ∧ ρ.2.2.2.2 5 = v5) ∨ (flt b L σ F' ∧ rn mX11_tested 12 [vr 103, vi 1, x2] [] (HP A F E) = some (vi 0, HP A' F' E))) := by
        intro op sg hop hjop hj hk hx1 hrun
        have pw := m_passWord (E := E) tm d7 s0.1 s0.2
        have wb := wde_b (b := b) s0.2
        -- laid down behind the word
        have bf3 : BF A2 (fF F2 8 (wde b L (sk b L ρ2.1))) b L t g (nxs b L ρ2) C3 lag3 w3 O0 T2 S0 ∨ True := Or.inr trivial
        have ms3 : MS A2 (fF F2 8 (wde b L (sk b L ρ2.1))) b L t g (wde b L (sk b L ρ2.1)) (lag3.reverse ++ C3) ρ2.2.2.2.2 := ⟨TM_f tm (by omega), plc_i fF_s (by omega), by rw [fF_n (by omega)]; exact h9, by rw [fF_n (by omega)]; exact h11, by rw [fF_n (by omega)]; exact h12, h6, hM⟩
        have rk3 : rkf op = 1 ∨ rkf op = 2 := by rcases hop with ⟨a, _⟩ | ⟨a, _⟩ <;> rw [a] <;> decide
        obtain ⟨A3, F3, p, w4, j1, j2, j3, j4, j5, j6, j7, j8⟩ := m_layDown (E := E) ht (le := rkf op) (by omega) (OS_8 os2 (k := 8) (y := wde b L (sk b L ρ2.1)) (by omega)) ms3 (by omega)
        have st := m_strength (o := op) (h := HP A2 (fF F2 8 (wde b L (sk b L ρ2.1))) E) (by omega)
        rw [if_neg (by omega), show dec' op = sg by rcases hop with ⟨a, c⟩ | ⟨a, c⟩ <;> rw [a, c] <;> rfl] at st
        have lgp : ∀ o, o ∈ lag3 ++ p → rkf op ≤ rkf o := fun o q => by
          rcases List.mem_append.mp q with q | q
          · have a := hl2 o q
            unfold rkf
            rw [if_neg (show ¬ o = 50 by omega)]
            by_cases y : o ≤ 22
            · rw [if_pos y]; have : o = 22 := by omega
              unfold rkf at rk3; omega
            · rw [if_neg y]
              unfold rkf at rk3
              split
              · omega
              · split <;> omega
          · exact (j2 o q).1
        have tr : tkr b L ρ2 = (-1, (lag3 ++ p).reverse ++ (C3 ++ O0), op :: w4, fup (fup ρ2.2.2.2.2 7 (ρ2.2.2.2.2 7 - n22 (lag3 ++ p))) 4 2) := by
          rw [btk]
          unfold tkBF
          rw [ts, if_pos hj, hjop, e1, e2, j1, ← List.append_assoc, stl2_lag (lag3 ++ p) w4 (C3 ++ O0) lgp j3]
        have w1 : (tkr b L ρ2).1 = -1 := by rw [tr]
        have ck3 := nxs_ok hb ck2 w1
        have rc1 := crn_1 w1 (by rw [hk]; omega)
        have a1 : (nxs b L ρ2).1 = wde b L (sk b L ρ2.1) := hx1
        have a3 : (nxs b L ρ2).2.2.1 = ((lag3 ++ p).reverse ++ C3) ++ O0 := by show (tkr b L ρ2).2.1 = _; rw [tr, List.append_assoc]
        have a4 : (nxs b L ρ2).2.2.2.1 = op :: w4 := by show (tkr b L ρ2).2.2.1 = _; rw [tr]
        have a5 : (nxs b L ρ2).2.2.2.2 = fup (fup ρ2.2.2.2.2 7 (ρ2.2.2.2.2 7 - n22 (lag3 ++ p))) 4 2 := by show (tkr b L ρ2).2.2.2 = _; rw [tr]
        have pl2 := ck3.2.2 (by rw [hk]; omega)
        generalize hτ1 : nxs b L ρ2 = τ1 at *
        obtain ⟨o1, o2, o3, o4⟩ := id j5
        have wl : w4.length ≤ 399 := by
          have bl1 := bl.1
          rw [j1, List.length_append (as := p)] at bl1
          omega
        obtain ⟨m1, m2, m3, m4, m5, m6, m7⟩ := id j6
        have el : (lag3 ++ p).reverse ++ C3 = p.reverse ++ (lag3.reverse ++ C3) := by rw [List.reverse_append, List.append_assoc]
        have os4 : OS (aup A3 110 (fup (A3 110) w4.length sg)) (fF F3 16 ((w4.length : Int) + 1)) (op :: w4) := by
          refine ⟨by rw [fF_s, List.length_cons]; omega, fun k hk' => ?_, by rw [fF_n (by omega), o3, c7, if_neg (by omega)]; omega, fun o q => ?_⟩
          · rw [aup_s, wat]
            rw [List.length_cons] at hk'
            by_cases y : k = w4.length
            · rw [if_pos y, y, fup_s]; rcases hop with ⟨a, c⟩ | ⟨a, c⟩ <;> rw [a, c] <;> rfl
            · rw [if_neg y, fup_n y]; exact o2 k (by omega)
          · rcases List.mem_cons.mp q with y | y
            · rw [y]; omega
            · exact o4 o y
        have ms4 : MS (aup A3 110 (fup (A3 110) w4.length sg)) (fF F3 16 ((w4.length : Int) + 1)) b L t g τ1.1 ((lag3 ++ p).reverse ++ C3) τ1.2.2.2.2 := by
          rw [el, a1]
          obtain ⟨z1, z2, z3, z4, z5, z6, z7⟩ := MS_o j6 (A' := aup A3 110 (fup (A3 110) w4.length sg)) (F' := fF F3 16 ((w4.length : Int) + 1)) (aup_n (by omega)) (aup_n (by omega)) (aup_n (by omega)) (fun k _ c => fF_n c)
          exact ⟨z1, z2, z3, z4, by rw [z5, a5, fup_n (by omega), fup_n (by omega)], z6, z7⟩
        have fs4 : fseg (nbw (op :: w4)) (p.reverse ++ T2) := by
          rw [nbw, if_pos (by omega)]
          rw [j1] at fs2
          exact fseg_p p T2 (fun o q => (j2 o q).2) fs2
        obtain ⟨A4, F4, i1, i2⟩ := ih (aup A3 110 (fup (A3 110) w4.length sg)) (fF F3 16 ((w4.length : Int) + 1)) τ1 ((lag3 ++ p).reverse ++ C3) (op :: w4) (p.reverse ++ T2) (vi sg) (by omega) ms4 a3 a4 os4 ck3.1 (by rw [a5, fup_s]) (by rw [a5, fup_n (by omega), fup_n (by omega)]; exact v92) (by have := crn_10 1 ρ2 τ1 rc1 v72; exact this) (by rw [el, hT2, List.append_assoc]) fs4 (by rw [a5, fup_n (by omega), fup_n (by omega), d5, c11.1]; exact h5)
        have run2 : rn mX11_tested 12 [vr 103, vi 1, x2] [] (HP A F E) = rn mX11_tested 12 [vr 103, vi 1, vi sg] [] (HP (aup A3 110 (fup (A3 110) w4.length sg)) (fF F3 16 ((w4.length : Int) + 1)) E) := by
          rw [hrun]
          simp (disch := omega) only [eX11_tested, sX11_tested_0, sX11_tested_1, sX11_tested_2, sX11_tested_5, sX11_tested_6, sX11_tested_7, sX11_tested_10, sX11_tested_11, sX11_tested_13, sX11_tested_16, sX11_tested_17, sX11_tested_20, sX11_tested_23, sX11_tested_24, sX11_tested_25, sX11_tested_26, sX11_tested_29, sX11_tested_30, sX11_tested_33, sX11_tested_36, sX11_tested_39, sX11_tested_40, sX11_tested_43, sX11_tested_46, sX11_tested_49, sX11_tested_50, sX11_tested_53, sX11_tested_54, sX11_tested_55, sX11_tested_56, sX11_tested_59, sX11_tested_60, sX11_tested_63, sX11_tested_66, sX11_tested_69, sX11_tested_71, sX11_tested_74, sX11_tested_76, sX11_tested_77, sX11_tested_78, sX11_tested_81, sX11_tested_82, sX11_tested_83, sX11_tested_86, sX11_tested_89, sX11_tested_90, sX11_tested_93, sX11_tested_94, sX11_tested_97, sX11_tested_98, sX11_tested_99, sX11_tested_100, sX11_tested_101, sX11_tested_104, sX11_tested_105, sX11_tested_106, sX11_tested_109, sX11_tested_112, sX11_tested_113, sX11_tested_116, sX11_tested_119, sX11_tested_120, sX11_tested_123, sX11_tested_124, sX11_tested_125, sX11_tested_126, sX11_tested_127, sX11_tested_130, sX11_tested_133, sX11_tested_134, sX11_tested_135, sX11_tested_136, sX11_tested_139, sX11_tested_140, ↓hk103, ↓bndv_at pw, ↓bndi_at st, ↓bndv_at j4, ↓hf103_15, ↓hf103_16, ↓hs110, ↓hp103_16, o1, Int.toNat_natCast, i32_of]
          rfl
        have fr : pf1 A F (aup A3 110 (fup (A3 110) w4.length sg)) (fF F3 16 ((w4.length : Int) + 1)) t g := pf1_t (pf1_t (pf1_t f1 d1) (pf1_t (pf1_f (Or.inl rfl)) j7)) ⟨fun j _ _ d => aup_n d, fun j a => fF_o a, fun k _ _ _ _ _ i => fF_n i, fun j _ => by rw [aup_n (by omega)], fun j _ => by rw [aup_n (by omega)]⟩
        refine ⟨A4, F4, pf1_t fr i1, ?_⟩
        have rr2 : crn b L (n + n2 + 1) σ τ1 := crn_t (n + n2) 1 σ ρ2 τ1 rr rc1
        rcases i2 with ⟨n3, ρ3, C4, lag4, T3, k1, k2, k3⟩ | ⟨k1, k2⟩
        · exact Or.inl ⟨n + n2 + 1 + n3, ρ3, C4, lag4, T3, crn_t (n + n2 + 1) n3 σ τ1 ρ3 rr2 k1, by rw [run2]; exact k2, k3⟩
        · exact Or.inr ⟨flt_t rr2 k1, by rw [run2]; exact k2⟩
      by_cases y1 : wdH b L (sk b L ρ2.1) 6385252 = true
      · have nO : ¬ wdH b L (sk b L ρ2.1) 28530 = true := fun q => by have := wdH_1 y1 q; omega
        rw [if_pos y1] at ia
        have tw := tkx_wd (va := ρ2.2.1) hb cx (w := 6385252) y1
        rw [ex] at tw
        rw [if_neg nO, if_pos y1] at tJ
        refine go 21 12 (Or.inr ⟨rfl, rfl⟩) (by unfold jop; rw [tJ, if_neg (by omega)]) (by omega) tw.1 tw.2 ?_
        rw [sX11_tested_12]
        simp (disch := omega) only [eX11_tested, sX11_tested_0, sX11_tested_1, sX11_tested_2, sX11_tested_5, sX11_tested_6, sX11_tested_7, sX11_tested_10, sX11_tested_11, sX11_tested_13, sX11_tested_16, sX11_tested_17, sX11_tested_20, sX11_tested_23, sX11_tested_24, sX11_tested_25, sX11_tested_26, sX11_tested_29, sX11_tested_30, sX11_tested_33, sX11_tested_36, sX11_tested_39, sX11_tested_40, sX11_tested_43, sX11_tested_46, sX11_tested_49, sX11_tested_50, sX11_tested_53, sX11_tested_54, sX11_tested_55, sX11_tested_56, sX11_tested_59, sX11_tested_60, sX11_tested_63, sX11_tested_66, sX11_tested_69, sX11_tested_71, sX11_tested_74, sX11_tested_77, sX11_tested_78, sX11_tested_81, sX11_tested_82, sX11_tested_83, sX11_tested_86, sX11_tested_89, sX11_tested_90, sX11_tested_93, sX11_tested_94, sX11_tested_97, sX11_tested_98, sX11_tested_99, sX11_tested_100, sX11_tested_101, sX11_tested_104, sX11_tested_105, sX11_tested_106, sX11_tested_109, sX11_tested_112, sX11_tested_113, sX11_tested_116, sX11_tested_119, sX11_tested_120, sX11_tested_123, sX11_tested_124, sX11_tested_125, sX11_tested_126, sX11_tested_127, sX11_tested_130, sX11_tested_133, sX11_tested_134, sX11_tested_135, sX11_tested_136, sX11_tested_139, sX11_tested_140, ↓hk103, ↓bndi_at fc, ↓bndv_at d3, ↓bndi_at ia, ↓if_pos, ↓if_neg]
      · rw [if_neg y1] at ia
        by_cases y2 : wdH b L (sk b L ρ2.1) 28530 = true
        · rw [if_pos y2] at io
          have tw := tkx_wd (va := ρ2.2.1) hb cx (w := 28530) y2
          rw [ex] at tw
          rw [if_pos y2] at tJ
          refine go 20 13 (Or.inl ⟨rfl, rfl⟩) (by unfold jop; rw [tJ, if_pos rfl]) (by omega) tw.1 tw.2 ?_
          rw [sX11_tested_12]
          simp (disch := omega) only [eX11_tested, sX11_tested_0, sX11_tested_1, sX11_tested_2, sX11_tested_5, sX11_tested_6, sX11_tested_7, sX11_tested_10, sX11_tested_11, sX11_tested_13, sX11_tested_16, sX11_tested_17, sX11_tested_20, sX11_tested_23, sX11_tested_24, sX11_tested_25, sX11_tested_26, sX11_tested_29, sX11_tested_30, sX11_tested_33, sX11_tested_36, sX11_tested_39, sX11_tested_40, sX11_tested_43, sX11_tested_46, sX11_tested_49, sX11_tested_50, sX11_tested_53, sX11_tested_54, sX11_tested_55, sX11_tested_56, sX11_tested_59, sX11_tested_60, sX11_tested_63, sX11_tested_66, sX11_tested_69, sX11_tested_71, sX11_tested_74, sX11_tested_77, sX11_tested_78, sX11_tested_81, sX11_tested_82, sX11_tested_83, sX11_tested_86, sX11_tested_89, sX11_tested_90, sX11_tested_93, sX11_tested_94, sX11_tested_97, sX11_tested_98, sX11_tested_99, sX11_tested_100, sX11_tested_101, sX11_tested_104, sX11_tested_105, sX11_tested_106, sX11_tested_109, sX11_tested_112, sX11_tested_113, sX11_tested_116, sX11_tested_119, sX11_tested_120, sX11_tested_123, sX11_tested_124, sX11_tested_125, sX11_tested_126, sX11_tested_127, sX11_tested_130, sX11_tested_133, sX11_tested_134, sX11_tested_135, sX11_tested_136, sX11_tested_139, sX11_tested_140, ↓hk103, ↓bndi_at fc, ↓bndv_at d3, ↓bndi_at ia, ↓bndi_at io, ↓if_pos, ↓if_neg]
        · rw [if_neg y2] at io
          rw [if_neg y2, if_neg y1] at tJ
          have ins := m_isInside (E := E) os2 (by omega)
          have pre : rn mX11_tested 12 [vr 103, vi 1, x2] [] (HP A F E) = rn mX11_tested 112 [vr 103, vi 0, x2] [] (HP A2 F2 E) := by
            rw [sX11_tested_12]
            simp (disch := omega) only [eX11_tested, sX11_tested_0, sX11_tested_1, sX11_tested_2, sX11_tested_5, sX11_tested_6, sX11_tested_7, sX11_tested_10, sX11_tested_11, sX11_tested_13, sX11_tested_16, sX11_tested_17, sX11_tested_20, sX11_tested_23, sX11_tested_24, sX11_tested_25, sX11_tested_26, sX11_tested_29, sX11_tested_30, sX11_tested_33, sX11_tested_36, sX11_tested_39, sX11_tested_40, sX11_tested_43, sX11_tested_46, sX11_tested_49, sX11_tested_50, sX11_tested_53, sX11_tested_54, sX11_tested_55, sX11_tested_56, sX11_tested_59, sX11_tested_60, sX11_tested_63, sX11_tested_66, sX11_tested_69, sX11_tested_71, sX11_tested_74, sX11_tested_77, sX11_tested_78, sX11_tested_81, sX11_tested_82, sX11_tested_83, sX11_tested_86, sX11_tested_89, sX11_tested_90, sX11_tested_93, sX11_tested_94, sX11_tested_97, sX11_tested_98, sX11_tested_99, sX11_tested_100, sX11_tested_101, sX11_tested_104, sX11_tested_105, sX11_tested_106, sX11_tested_109, sX11_tested_113, sX11_tested_116, sX11_tested_119, sX11_tested_120, sX11_tested_123, sX11_tested_124, sX11_tested_125, sX11_tested_126, sX11_tested_127, sX11_tested_130, sX11_tested_133, sX11_tested_134, sX11_tested_135, sX11_tested_136, sX11_tested_139, sX11_tested_140, ↓hk103, ↓bndi_at fc, ↓bndv_at d3, ↓bndi_at ia, ↓bndi_at io, ↓if_pos, ↓if_neg]
            rw [sX11_tested_12]
            simp (disch := omega) only [eX11_tested, sX11_tested_0, sX11_tested_1, sX11_tested_2, sX11_tested_5, sX11_tested_6, sX11_tested_7, sX11_tested_10, sX11_tested_11, sX11_tested_13, sX11_tested_16, sX11_tested_17, sX11_tested_20, sX11_tested_23, sX11_tested_24, sX11_tested_25, sX11_tested_26, sX11_tested_29, sX11_tested_30, sX11_tested_33, sX11_tested_36, sX11_tested_39, sX11_tested_40, sX11_tested_43, sX11_tested_46, sX11_tested_49, sX11_tested_50, sX11_tested_53, sX11_tested_54, sX11_tested_55, sX11_tested_56, sX11_tested_59, sX11_tested_60, sX11_tested_63, sX11_tested_66, sX11_tested_69, sX11_tested_71, sX11_tested_74, sX11_tested_77, sX11_tested_78, sX11_tested_81, sX11_tested_82, sX11_tested_83, sX11_tested_86, sX11_tested_89, sX11_tested_90, sX11_tested_93, sX11_tested_94, sX11_tested_97, sX11_tested_98, sX11_tested_99, sX11_tested_100, sX11_tested_101, sX11_tested_104, sX11_tested_105, sX11_tested_106, sX11_tested_109, sX11_tested_113, sX11_tested_116, sX11_tested_119, sX11_tested_120, sX11_tested_123, sX11_tested_124, sX11_tested_125, sX11_tested_126, sX11_tested_127, sX11_tested_130, sX11_tested_133, sX11_tested_134, sX11_tested_135, sX11_tested_136, sX11_tested_139, sX11_tested_140, ↓if_pos, ↓if_neg]
          have v8 := ck2.1.2.2.1
          rw [e2, c50_a, c50_n lag3 (fun o q => by have := hl2 o q; omega)] at v8
          by_cases z : c50 w3 = 0
          · rw [if_pos z] at ins
            obtain ⟨A3, F3, p, w4, j1, j2, j3, j4, j5, j6, j7, j8, j9, j10⟩ := bf_lay (E := E) ht hg (le := 1) (by omega) d4
            have w4e : w4 = [] := by
              cases w4 with
              | nil => rfl
              | cons o r =>
                exfalso
                have a := j7 o r rfl
                rcases j4.2.2.2 o (List.mem_cons_self ..) with q | q | q | q
                · rw [q] at a; exact absurd a (by decide)
                · rw [q] at a; exact absurd a (by decide)
                · rw [q] at a; exact absurd a (by decide)
                · rw [j1, c50_a, c50, if_pos q] at z
                  have := c50_b p
                  have := c50_b r
                  omega
            subst w4e
            refine ⟨A3, F3, pf1_t (pf1_t f1 d1) j3, Or.inl ⟨n + n2, ρ2, C3, lag3 ++ p, p.reverse ++ T2, rr, ?_, ⟨j5, e1, by rw [e2, j1, List.append_nil], ck2, v92, v42, fun o q => ?_, j8, j9, tJ⟩, by rw [d5, c11.1]; exact h5⟩⟩
            · rw [pre]
              simp (disch := omega) only [eX11_tested, sX11_tested_0, sX11_tested_1, sX11_tested_2, sX11_tested_5, sX11_tested_6, sX11_tested_7, sX11_tested_10, sX11_tested_11, sX11_tested_13, sX11_tested_16, sX11_tested_17, sX11_tested_20, sX11_tested_23, sX11_tested_24, sX11_tested_25, sX11_tested_26, sX11_tested_29, sX11_tested_30, sX11_tested_33, sX11_tested_36, sX11_tested_39, sX11_tested_40, sX11_tested_43, sX11_tested_46, sX11_tested_49, sX11_tested_50, sX11_tested_53, sX11_tested_54, sX11_tested_55, sX11_tested_56, sX11_tested_59, sX11_tested_60, sX11_tested_63, sX11_tested_66, sX11_tested_69, sX11_tested_71, sX11_tested_74, sX11_tested_76, sX11_tested_77, sX11_tested_78, sX11_tested_81, sX11_tested_82, sX11_tested_83, sX11_tested_86, sX11_tested_89, sX11_tested_90, sX11_tested_93, sX11_tested_94, sX11_tested_97, sX11_tested_98, sX11_tested_99, sX11_tested_100, sX11_tested_101, sX11_tested_104, sX11_tested_105, sX11_tested_106, sX11_tested_109, sX11_tested_112, sX11_tested_113, sX11_tested_116, sX11_tested_119, sX11_tested_120, sX11_tested_123, sX11_tested_124, sX11_tested_125, sX11_tested_126, sX11_tested_127, sX11_tested_130, sX11_tested_133, sX11_tested_134, sX11_tested_135, sX11_tested_136, sX11_tested_139, sX11_tested_140, ↓hk103, ↓bndi_at ins, ↓bndv_at j2, ↓if_pos, ↓if_neg, ↓reduceIte, or_true]
            · rcases List.mem_append.mp q with q | q
              · have := hl2 o q; omega
              · have := (j6 o q).2; omega
          · rw [if_neg z] at ins
            have se := m_see (E := E) tm d7 s0.1 s0.2
            rw [si, fF_id d7] at se
            have fl := m_fails (A := A2) (E := E) (k := 0) (at' := sk b L ρ2.1) h9 (by omega) (by omega)
            have k93 := tok_k (k := 93) (va := ρ2.2.1) hb cx.1 cx.2 (by omega) (by omega) (by decide) (by decide)
            rw [ex] at k93
            have n93 : ¬ (tkx b L ρ2).2.2.1 = 93 := fun q => d6 ⟨k93.1.mp q, z⟩
            have tr : tkr b L ρ2 = (0, ρ2.2.2.1, ρ2.2.2.2.1, ρ2.2.2.2.2) := by
              rw [btk]
              unfold tkBF
              rw [ts, if_neg (fun q => q tJ), if_neg (by omega), if_pos n93]
            refine ⟨A2, fF F2 9 (1 + 8 * sk b L ρ2.1 + 0), pf1_t (pf1_t f1 d1) (pf1_f (Or.inr (Or.inl rfl))), Or.inr ⟨⟨n + n2, ρ2, rr, by rw [tr]; dsimp only; omega, by rw [fF_s, tr, ts]⟩, ?_⟩⟩
            rw [pre]
            simp (disch := omega) only [eX11_tested, sX11_tested_0, sX11_tested_1, sX11_tested_2, sX11_tested_5, sX11_tested_6, sX11_tested_7, sX11_tested_10, sX11_tested_11, sX11_tested_13, sX11_tested_16, sX11_tested_17, sX11_tested_20, sX11_tested_23, sX11_tested_24, sX11_tested_25, sX11_tested_26, sX11_tested_29, sX11_tested_30, sX11_tested_33, sX11_tested_36, sX11_tested_39, sX11_tested_40, sX11_tested_43, sX11_tested_46, sX11_tested_49, sX11_tested_50, sX11_tested_53, sX11_tested_54, sX11_tested_55, sX11_tested_56, sX11_tested_59, sX11_tested_60, sX11_tested_63, sX11_tested_66, sX11_tested_69, sX11_tested_71, sX11_tested_74, sX11_tested_76, sX11_tested_77, sX11_tested_78, sX11_tested_81, sX11_tested_82, sX11_tested_83, sX11_tested_86, sX11_tested_89, sX11_tested_90, sX11_tested_93, sX11_tested_94, sX11_tested_97, sX11_tested_98, sX11_tested_99, sX11_tested_100, sX11_tested_101, sX11_tested_104, sX11_tested_105, sX11_tested_106, sX11_tested_109, sX11_tested_112, sX11_tested_113, sX11_tested_116, sX11_tested_119, sX11_tested_120, sX11_tested_123, sX11_tested_124, sX11_tested_125, sX11_tested_126, sX11_tested_127, sX11_tested_130, sX11_tested_133, sX11_tested_134, sX11_tested_135, sX11_tested_136, sX11_tested_139, sX11_tested_140, ↓hk103, ↓hf103_8, d7, ↓bndi_at ins, ↓bndi_at se, ↓bndi_at fl, ↓if_pos, ↓if_neg, ↓reduceIte, true_or]
    · have fc : cl mX11_fact [vr 103] (HP A F E) = some (vi 0, HP A1 F1 E) := by rw [← c2]; simp only [eX11_fact, sX11_fact_0, sX11_fact_1, sX11_fact_3, sX11_fact_6, sX11_fact_7, sX11_fact_8, sX11_fact_9, sX11_fact_12, sX11_fact_13, sX11_fact_14, sX11_fact_17, sX11_fact_20, sX11_fact_23, sX11_fact_24, sX11_fact_26, sX11_fact_29, sX11_fact_32, sX11_fact_33, sX11_fact_34, sX11_fact_35, sX11_fact_38, sX11_fact_39, sX11_fact_40, sX11_fact_43, sX11_fact_44, sX11_fact_46, sX11_fact_49, sX11_fact_50, sX11_fact_52, sX11_fact_55, sX11_fact_58, sX11_fact_59, sX11_fact_60, sX11_fact_61, sX11_fact_62, sX11_fact_65, sX11_fact_66, sX11_fact_67, sX11_fact_70, sX11_fact_71, sX11_fact_72, sX11_fact_75, sX11_fact_76, sX11_fact_79]
      refine ⟨A1, F1, f1, Or.inr ⟨c1, ?_⟩⟩
      rw [sX11_tested_12]
      simp (disch := omega) only [eX11_tested, sX11_tested_0, sX11_tested_1, sX11_tested_2, sX11_tested_5, sX11_tested_6, sX11_tested_7, sX11_tested_10, sX11_tested_11, sX11_tested_13, sX11_tested_16, sX11_tested_17, sX11_tested_20, sX11_tested_23, sX11_tested_24, sX11_tested_25, sX11_tested_26, sX11_tested_29, sX11_tested_30, sX11_tested_33, sX11_tested_36, sX11_tested_39, sX11_tested_40, sX11_tested_43, sX11_tested_46, sX11_tested_49, sX11_tested_50, sX11_tested_53, sX11_tested_54, sX11_tested_55, sX11_tested_56, sX11_tested_59, sX11_tested_60, sX11_tested_63, sX11_tested_66, sX11_tested_69, sX11_tested_71, sX11_tested_74, sX11_tested_77, sX11_tested_78, sX11_tested_81, sX11_tested_82, sX11_tested_83, sX11_tested_86, sX11_tested_89, sX11_tested_90, sX11_tested_93, sX11_tested_94, sX11_tested_97, sX11_tested_98, sX11_tested_99, sX11_tested_100, sX11_tested_101, sX11_tested_104, sX11_tested_105, sX11_tested_106, sX11_tested_109, sX11_tested_112, sX11_tested_113, sX11_tested_116, sX11_tested_119, sX11_tested_120, sX11_tested_123, sX11_tested_124, sX11_tested_125, sX11_tested_126, sX11_tested_127, sX11_tested_130, sX11_tested_133, sX11_tested_134, sX11_tested_135, sX11_tested_136, sX11_tested_139, sX11_tested_140, ↓hk103, ↓bndi_at fc, ↓if_pos, ↓if_neg, ↓reduceIte, true_or]
/-- a test, in both *)-/
theorem m_tested (ht : t < 6) (hg : g ≤ O0.length) (ms : MS A F b L t g σ.1 S0 σ.2.2.2.2) (hO : σ.2.2.1 = S0 ++ O0) (hW : σ.2.2.2.1 = []) (ck : cok L σ) (v4 : σ.2.2.2.2 4 = 2) (v9 : σ.2.2.2.2 9 ≠ 0) : ∃ A' F', pf1 A F A' F' t g ∧ ((∃ n ρ C2 lag T2, crn b L n σ ρ ∧ cl mX11_tested [vr 103] (HP A F E) = some (vi 1, HP A' F' E) ∧ TD A' F' b L t g ρ C2 lag O0 T2 S0 ∧ ρ.2.2.2.2 5 = σ.2.2.2.2 5) ∨ (flt b L σ F' ∧ cl mX11_tested [vr 103] (HP A F E) = some (vi 0, HP A' F' E))) := by
  have v7 := ck.1.2.1
  rw [hW] at v7
  have os0 : OS A (fF (fF F 16 0) 13 0) [] := ⟨by rw [fF_n (by omega), fF_s]; rfl, fun k hk => by simp at hk, fF_s, fun o q => by cases q⟩
  have ms0 := MS_o ms (A' := A) (F' := fF (fF F 16 0) 13 0) rfl rfl rfl (fun k a c => by rw [fF_n a, fF_n c])
  obtain ⟨A', F', i1, i2⟩ := m_tst_l (E := E) (S0 := S0) ht hg 500 A (fF (fF F 16 0) 13 0) σ S0 [] [] vn (by have := ck.2.1; have := ms.1.2.1; omega) ms0 hO hW os0 ck v4 v9 (by rw [v7]; decide) rfl fseg_0 rfl
  have pt : aup F 103 (fup (fup (F 103) 16 0) 13 0) = fF (fF F 16 0) 13 0 := by unfold fF; rw [aup_s, aup_aup]
  have run : cl mX11_tested [vr 103] (HP A F E) = rn mX11_tested 12 [vr 103, vi 1, vn] [] (HP A (fF (fF F 16 0) 13 0) E) := by
    simp (disch := omega) only [eX11_tested, sX11_tested_0, sX11_tested_1, sX11_tested_2, sX11_tested_5, sX11_tested_6, sX11_tested_7, sX11_tested_10, sX11_tested_11, sX11_tested_13, sX11_tested_16, sX11_tested_17, sX11_tested_20, sX11_tested_23, sX11_tested_24, sX11_tested_25, sX11_tested_26, sX11_tested_29, sX11_tested_30, sX11_tested_33, sX11_tested_36, sX11_tested_39, sX11_tested_40, sX11_tested_43, sX11_tested_46, sX11_tested_49, sX11_tested_50, sX11_tested_53, sX11_tested_54, sX11_tested_55, sX11_tested_56, sX11_tested_59, sX11_tested_60, sX11_tested_63, sX11_tested_66, sX11_tested_69, sX11_tested_71, sX11_tested_74, sX11_tested_76, sX11_tested_77, sX11_tested_78, sX11_tested_81, sX11_tested_82, sX11_tested_83, sX11_tested_86, sX11_tested_89, sX11_tested_90, sX11_tested_93, sX11_tested_94, sX11_tested_97, sX11_tested_98, sX11_tested_99, sX11_tested_100, sX11_tested_101, sX11_tested_104, sX11_tested_105, sX11_tested_106, sX11_tested_109, sX11_tested_112, sX11_tested_113, sX11_tested_116, sX11_tested_119, sX11_tested_120, sX11_tested_123, sX11_tested_124, sX11_tested_125, sX11_tested_126, sX11_tested_127, sX11_tested_130, sX11_tested_133, sX11_tested_134, sX11_tested_135, sX11_tested_136, sX11_tested_139, sX11_tested_140, ↓hp103_16, ↓hp103_13, aup_s, aup_aup, pt]
  refine ⟨A', F', pf1_t (pf1_t (pf1_f (Or.inr (Or.inr (Or.inr (Or.inr (Or.inr rfl)))))) (pf1_f (Or.inr (Or.inr (Or.inr (Or.inr (Or.inl rfl))))))) i1, ?_⟩
  rcases i2 with ⟨n, ρ, C2, lag, T2, k1, k2, k3⟩ | ⟨k1, k2⟩
  · exact Or.inl ⟨n, ρ, C2, lag, T2, k1, by rw [run]; exact k2, k3⟩
  · exact Or.inr ⟨k1, by rw [run]; exact k2⟩
end TT2
