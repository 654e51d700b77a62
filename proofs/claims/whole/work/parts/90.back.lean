/-! back -/
section BK
variable {A F : Nat → Nat → Int} {E : zE}
theorem h_hclear : cl mX2_clear [vr 20] (HP A F E) = some (vn, HP A (aup F 20 (fup (F 20) 2 0)) E) := by
  have := H_clear (h := HP A F E) (s := 20) (w := 21) (nx := F 20 1) (sz := F 20 2) rfl
  exact this.trans (congrArg (fun x => some (vn, x)) (zup_HPf (f := fup (F 20) 2 0) rfl))
theorem k_back {k : Int} (h : inv A F E) : prs mX10_back mX11_back [vi k] A F E := by
  have h' := h
  obtain ⟨hT, hR, hW, hS, hH, hI⟩ := h
  have wi := E_within (v := k) (lo := 0) (hi := 3) (h := HP A F E)
  have mi := fun H => m_in (v := k) (lo := 0) (hi := 3) (h := H)
  by_cases z : 0 ≤ k ∧ k ≤ 3
  · rw [if_pos z] at wi
    obtain ⟨n, rfl⟩ : ∃ n : Nat, k = (n : Int) := ⟨k.toNat, by omega⟩
    have hn : n < 4 := by omega
    obtain ⟨i1', i2', i3'⟩ := hI n hn
    by_cases y : F (67 + 9 * n) 3 = 1
    · obtain ⟨s1, s2, s3, s4, s5⟩ := i3' y
      have c1 := h_copy (A := A) (F := F) (E := E) wad_12 (wad_i1 hn) (hW.1 _ wad_12) (hW.1 _ (wad_i1 hn))
      rw [show 68 + 9 * n + 1 = 69 + 9 * n by omega] at c1
      have hW1 : iW (aup A (12 + 1) (A (69 + 9 * n))) := by
        refine ⟨fun a ha => ?_, fun j hj => ?_⟩
        · by_cases q : a + 1 = 12 + 1
          · rw [q, aup_s, show 69 + 9 * n = 68 + 9 * n + 1 by omega]; exact hW.1 _ (wad_i1 hn)
          · rw [aup_n q]; exact hW.1 a ha
        · rw [aup_n (by unfold nad at hj; omega)]; exact hW.2 j hj
      generalize hF1 : aup F 12 (fup (F 12) 1 (-1)) = F1 at c1
      have c2 := h_copy (A := aup A (12 + 1) (A (69 + 9 * n))) (F := F1) (E := E) wad_10 (wad_i2 hn) (hW1.1 _ wad_10) (hW1.1 _ (wad_i2 hn))
      rw [show 70 + 9 * n + 1 = 71 + 9 * n by omega, aup_n (show 71 + 9 * n ≠ 12 + 1 by omega)] at c2
      have hW2 : iW (aup (aup A (12 + 1) (A (69 + 9 * n))) (10 + 1) (A (71 + 9 * n))) := by
        refine ⟨fun a ha => ?_, fun j hj => ?_⟩
        · by_cases q : a + 1 = 10 + 1
          · rw [q, aup_s, show 71 + 9 * n = 70 + 9 * n + 1 by omega]; exact hW.1 _ (wad_i2 hn)
          · rw [aup_n q]; exact hW1.1 a ha
        · rw [aup_n (by unfold nad at hj; omega)]; exact hW1.2 j hj
      generalize hF2 : aup F1 10 (fup (F1 10) 1 (-1)) = F2 at c2
      generalize hA2 : aup (aup A (12 + 1) (A (69 + 9 * n))) (10 + 1) (A (71 + 9 * n)) = A2 at *
      have c3 := h_ncopy (A := A2) (F := F2) (E := E) nob_16 (nob_i hn) (by omega) hW2
      rw [show 72 + 9 * n + 1 = 73 + 9 * n by omega, show 72 + 9 * n + 2 = 74 + 9 * n by omega, show 72 + 9 * n + 3 = 75 + 9 * n by omega] at c3
      have f272 : F2 (72 + 9 * n) = F (72 + 9 * n) := by rw [← hF2, aup_n (by omega), ← hF1, aup_n (by omega)]
      rw [f272] at c3
      generalize hF3 : aup F2 16 (fup (F2 16) 3 (F (72 + 9 * n) 3)) = F3 at c3
      generalize hA3 : aup (aup (aup A2 (16 + 1) (A2 (73 + 9 * n))) (16 + 2) (A2 (74 + 9 * n))) (16 + 3) (A2 (75 + 9 * n)) = A3 at c3
      have f31 : F3 1 = F 1 := by rw [← hF3, aup_n (by omega), ← hF2, aup_n (by omega), ← hF1, aup_n (by omega)]
      have f367 : F3 (67 + 9 * n) = F (67 + 9 * n) := by rw [← hF3, aup_n (by omega), ← hF2, aup_n (by omega), ← hF1, aup_n (by omega)]
      generalize hF4 : aup (aup F3 1 (fup (F 1) 5 (F (67 + 9 * n) 4))) 1 (fup (fup (F 1) 5 (F (67 + 9 * n) 4)) 6 (F (67 + 9 * n) 5)) = F4
      have c4 := h_hclear (A := A3) (F := F4) (E := E)
      generalize hF5 : aup F4 20 (fup (F4 20) 2 0) = F5 at c4
      have kA : ∀ j, j ≠ 13 → j ≠ 11 → j ≠ 17 → j ≠ 18 → j ≠ 19 → A3 j = A j := fun j j1 j2 j3 j4 j5 => by
        rw [← hA3, aup_n (by omega), aup_n (by omega), aup_n (by omega), ← hA2, aup_n (by omega), aup_n (by omega)]
      have kF : ∀ j, j ≠ 1 → j ≠ 10 → j ≠ 12 → j ≠ 16 → j ≠ 20 → F5 j = F j := fun j j1 j2 j3 j4 j5 => by
        rw [← hF5, aup_n j5, ← hF4, aup_n j1, aup_n j1, ← hF3, aup_n j4, ← hF2, aup_n j2, ← hF1, aup_n j3]
      have e1 : F5 1 = fup (fup (F 1) 5 (F (67 + 9 * n) 4)) 6 (F (67 + 9 * n) 5) := by
        rw [← hF5, aup_n (by omega), ← hF4, aup_s]
      have e16 : F5 16 3 = F (72 + 9 * n) 3 := by
        rw [← hF5, aup_n (by omega), ← hF4, aup_n (by omega), aup_n (by omega), ← hF3, aup_s, fup_s]
      have e20 : F5 20 = fup (F 20) 2 0 := by
        rw [← hF5, aup_s, ← hF4, aup_n (by omega), aup_n (by omega), ← hF3, aup_n (by omega), ← hF2, aup_n (by omega), ← hF1, aup_n (by omega)]
      have a13 : A3 13 = A (69 + 9 * n) := by rw [← hA3, aup_n (by omega), aup_n (by omega), aup_n (by omega), ← hA2, aup_n (by omega), aup_s]
      have a11 : A3 11 = A (71 + 9 * n) := by rw [← hA3, aup_n (by omega), aup_n (by omega), aup_n (by omega), ← hA2, aup_s]
      have a2n : ∀ j, 67 ≤ j → A2 j = A j := fun j hj => by rw [← hA2, aup_n (by omega), aup_n (by omega)]
      have a17 : A3 17 = A (73 + 9 * n) := by rw [← hA3, aup_n (by omega), aup_n (by omega), aup_s, a2n _ (by omega)]
      have a18 : A3 18 = A (74 + 9 * n) := by rw [← hA3, aup_n (by omega), aup_s, a2n _ (by omega)]
      have a19 : A3 19 = A (75 + 9 * n) := by rw [← hA3, aup_s, a2n _ (by omega)]
      have gt : cl mX9_get [vr 12, vi 2] (HP A3 F5 E) = some (vi (A (69 + 9 * n) 2), HP A3 F5 E) := by
        have := h_get (A := A3) (F := F5) (E := E) (i := 2) wad_12 (by omega) (by omega)
        rw [this]; show some (vi (A3 13 2), _) = _; rw [a13]
      obtain ⟨W, w1, w2⟩ := m_bck_l (E := E) (F := aup F5 103 (fup (fup (fup (F 103) 21 (A 124 n)) 22 (A 125 n)) 24 0)) hn 176 0 A3 (by omega)
      have w1' : rn mX11_back 50 [vr 103, vi (n : Int), vi 0] [] (HP A3 (aup F5 103 (fup (fup (fup (F 103) 21 (A 124 n)) 22 (A 125 n)) 24 0)) E) = _ := w1
      have hSR : SR (A (69 + 9 * n)) (A (71 + 9 * n)) (A (73 + 9 * n)) (A (74 + 9 * n)) (A (75 + 9 * n)) (F (72 + 9 * n) 3) W := SR_c s1 (fun j hj => by rw [w2, if_pos (by omega), kA 123 (by omega) (by omega) (by omega) (by omega) (by omega)])
      have w10 : W 10 = A (69 + 9 * n) 2 := by
        rcases hSR with ⟨y1, y2, y3, y4⟩ | ⟨G, r⟩
        · rw [y1, y4 10 (by omega)]
        · exact sd_2 r.2.2.2.1
      rw [w10] at w1'
      obtain ⟨r1, r2, r3, r4, r5, r6, r7, r8, r9⟩ := hR
      have mi' := mi (HP A3 F5 E)
      rw [if_pos z] at mi'
      refine ⟨A (69 + 9 * n) 2, A3, F5, E, aup A3 113 W, aup F5 103 (fup (fup (fup (F 103) 21 (A 124 n)) 22 (A 125 n)) 24 0), E, ?_, ?_, ⟨?_, ?_, ?_, ?_, ?_, ?_⟩, rfl⟩
      · simp (disch := first | omega | assumption | exact nob_i hn | exact wad_i1 hn | exact wad_i2 hn) only [eX10_back, sX10_back_0, sX10_back_1, sX10_back_2, sX10_back_3, sX10_back_6, sX10_back_9, sX10_back_10, sX10_back_13, sX10_back_14, sX10_back_15, sX10_back_18, sX10_back_21, sX10_back_22, sX10_back_23, sX10_back_24, sX10_back_27, sX10_back_28, sX10_back_29, sX10_back_30, sX10_back_31, sX10_back_34, sX10_back_35, sX10_back_38, sX10_back_41, sX10_back_42, sX10_back_45, sX10_back_46, sX10_back_49, sX10_back_52, sX10_back_53, sX10_back_56, sX10_back_57, sX10_back_60, sX10_back_63, sX10_back_64, sX10_back_65, sX10_back_68, sX10_back_71, sX10_back_72, sX10_back_73, sX10_back_76, sX10_back_79, sX10_back_80, sX10_back_83, sX10_back_86, sX10_back_87, sX10_back_90, sX10_back_91, sX10_back_94, ↓hk1, ↓hf1_12, ↓hf1_8, ↓hf1_7, ↓hf1_10, ↓hf1_11, ↓hp1_5, ↓hp1_6, ↓hk12, ↓hk10, ↓hk16, ↓hk20, ↓bndi_at wi, ↓hg62, Int.toNat_natCast, ↓if_pos, ↓if_neg, ↓hi_3, y, ↓hi_0, ↓hi_1, ↓hi_2, ↓hi_4, ↓hi_5, ↓bndv_at c1, ↓bndv_at c2, ↓bndv_at c3, aup_s, f31, f367, aup_n, hF4, ↓bndv_at c4, ↓bndi_at gt]
      · rw [← w1']
        have a126 : A3 126 n = 1 := by rw [kA 126 (by omega) (by omega) (by omega) (by omega) (by omega), i1', y]
        have a124 : A3 124 = A 124 := kA 124 (by omega) (by omega) (by omega) (by omega) (by omega)
        have a125 : A3 125 = A 125 := kA 125 (by omega) (by omega) (by omega) (by omega) (by omega)
        have m103 : F5 103 = F 103 := kF 103 (by omega) (by omega) (by omega) (by omega) (by omega)
        simp (disch := omega) only [eX11_back, sX11_back_0, sX11_back_1, sX11_back_2, sX11_back_3, sX11_back_6, sX11_back_9, sX11_back_12, sX11_back_13, sX11_back_16, sX11_back_17, sX11_back_18, sX11_back_21, sX11_back_22, sX11_back_23, sX11_back_24, sX11_back_25, sX11_back_28, sX11_back_29, sX11_back_30, sX11_back_33, sX11_back_34, sX11_back_35, sX11_back_38, sX11_back_39, sX11_back_40, sX11_back_43, sX11_back_44, sX11_back_45, sX11_back_48, sX11_back_49, sX11_back_51, sX11_back_54, sX11_back_57, sX11_back_58, sX11_back_61, sX11_back_62, sX11_back_63, sX11_back_66, sX11_back_69, sX11_back_70, sX11_back_71, sX11_back_72, sX11_back_73, sX11_back_74, sX11_back_75, sX11_back_78, sX11_back_81, sX11_back_82, sX11_back_85, sX11_back_87, sX11_back_88, ↓hf103_40, ↓hf103_38, ↓hf103_39, ↓hp103_21, ↓hp103_22, ↓hp103_24, ↓hg126, ↓hg124, ↓hg125, ↓bndi_at mi', Int.toNat_natCast, a126, a124, a125, m103, aup_s, aup_aup, ↓if_pos, ↓if_neg]
      · refine iT_f hT ?_ ?_ ?_ ?_
        · rw [aup_n (by omega)]; exact kA 3 (by omega) (by omega) (by omega) (by omega) (by omega)
        · rw [aup_n (by omega)]; exact kA 104 (by omega) (by omega) (by omega) (by omega) (by omega)
        · rw [aup_n (by omega)]; exact kF 2 (by omega) (by omega) (by omega) (by omega) (by omega)
        · rw [aup_s, fup_n (by omega), fup_n (by omega), fup_n (by omega)]
      · refine ⟨r1, r2, ?_, ?_, ?_, ?_, ?_, ?_, fun i hi => RU_f (r9 i hi) ?_ ?_ ?_ ?_⟩
        · rw [aup_n (by omega), e1, fup_n (by omega), fup_n (by omega)]; exact r3
        · rw [aup_s, fup_n (by omega), fup_n (by omega), fup_n (by omega)]; exact r4
        · rw [aup_n (by omega), e1, fup_n (by omega), fup_s]; exact s3
        · rw [aup_s, fup_n (by omega), fup_n (by omega), fup_s, aup_n (by omega), e1, fup_n (by omega), fup_s]; exact s2
        · rw [aup_s, fup_n (by omega), fup_s, aup_n (by omega), e1, fup_s]; exact s4
        · rw [aup_n (by omega), e1, fup_s]; exact s5
        · rw [aup_n (by omega)]; exact kA _ (by omega) (by omega) (by omega) (by omega) (by omega)
        · rw [aup_n (by omega)]; exact kA _ (by omega) (by omega) (by omega) (by omega) (by omega)
        · rw [aup_n (by omega)]; exact kA _ (by omega) (by omega) (by omega) (by omega) (by omega)
        · rw [aup_n (by omega)]; exact kA _ (by omega) (by omega) (by omega) (by omega) (by omega)
      · refine ⟨fun a ha => ?_, fun j hj => ?_⟩
        · have := wad_b ha
          rw [aup_n (by omega), ← hA3, aup_n (by unfold wad at ha; omega), aup_n (by unfold wad at ha; omega), aup_n (by unfold wad at ha; omega)]
          exact hW2.1 a ha
        · have na : nad (73 + 9 * n) ∧ nad (74 + 9 * n) ∧ nad (75 + 9 * n) := by unfold nad; omega
          rw [aup_n (by unfold nad at hj; omega)]
          by_cases q1 : j = 17
          · rw [q1, a17]; exact hW.2 _ na.1
          · by_cases q2 : j = 18
            · rw [q2, a18]; exact hW.2 _ na.2.1
            · by_cases q3 : j = 19
              · rw [q3, a19]; exact hW.2 _ na.2.2
              · rw [kA j (by unfold nad at hj; omega) (by unfold nad at hj; omega) q1 q2 q3]; exact hW.2 j hj
      · unfold iS
        simp (disch := omega) only [aup_n, aup_s, a13, a11, a17, a18, a19, e16]
        exact hSR
      · unfold iH
        have e20' : aup F5 103 (fup (fup (fup (F 103) 21 (A 124 n)) 22 (A 125 n)) 24 0) 20 = fup (F 20) 2 0 := by rw [aup_n (by omega), e20]
        rw [e20']
        simp (disch := omega) only [aup_s, fup_s, fup_n]
        exact ⟨hH.1, by omega, by trivial, fun u hu => by omega⟩
      · exact iI_f hI (fun j hj => by rw [aup_n (by omega)]; exact kA j (by omega) (by omega) (by omega) (by omega) (by omega)) (fun j _ _ => by rw [aup_n (by omega)]; exact kF j (by omega) (by omega) (by omega) (by omega) (by omega))
    · have y0 : F (67 + 9 * n) 3 = 0 := by omega
      have a126 : A 126 n = 0 := by omega
      have mi' := mi (HP A F E)
      rw [if_pos z] at mi'
      refine prs_0 (v := -1) h' ?_ ?_
      · simp (disch := omega) only [eX10_back, sX10_back_0, sX10_back_1, sX10_back_2, sX10_back_3, sX10_back_6, sX10_back_9, sX10_back_10, sX10_back_13, sX10_back_14, sX10_back_15, sX10_back_18, sX10_back_21, sX10_back_22, sX10_back_23, sX10_back_24, sX10_back_27, sX10_back_28, sX10_back_29, sX10_back_30, sX10_back_31, sX10_back_34, sX10_back_35, sX10_back_38, sX10_back_41, sX10_back_42, sX10_back_45, sX10_back_46, sX10_back_49, sX10_back_52, sX10_back_53, sX10_back_56, sX10_back_57, sX10_back_60, sX10_back_63, sX10_back_64, sX10_back_65, sX10_back_68, sX10_back_71, sX10_back_72, sX10_back_73, sX10_back_76, sX10_back_79, sX10_back_80, sX10_back_83, sX10_back_86, sX10_back_87, sX10_back_90, sX10_back_91, sX10_back_94, ↓hk1, ↓hf1_12, ↓bndi_at wi, ↓hg62, Int.toNat_natCast, ↓hi_3, y0, ↓if_pos, ↓if_neg]
      · simp (disch := omega) only [eX11_back, sX11_back_0, sX11_back_1, sX11_back_2, sX11_back_3, sX11_back_6, sX11_back_9, sX11_back_12, sX11_back_13, sX11_back_16, sX11_back_17, sX11_back_18, sX11_back_21, sX11_back_22, sX11_back_23, sX11_back_24, sX11_back_25, sX11_back_28, sX11_back_29, sX11_back_30, sX11_back_33, sX11_back_34, sX11_back_35, sX11_back_38, sX11_back_39, sX11_back_40, sX11_back_43, sX11_back_44, sX11_back_45, sX11_back_48, sX11_back_49, sX11_back_51, sX11_back_54, sX11_back_57, sX11_back_58, sX11_back_61, sX11_back_62, sX11_back_63, sX11_back_66, sX11_back_69, sX11_back_70, sX11_back_71, sX11_back_72, sX11_back_73, sX11_back_74, sX11_back_75, sX11_back_78, sX11_back_81, sX11_back_82, sX11_back_85, sX11_back_87, sX11_back_88, ↓bndi_at mi', ↓hf103_40, ↓hg126, Int.toNat_natCast, a126, ↓if_pos, ↓if_neg]
  · rw [if_neg z] at wi
    have mi' := mi (HP A F E)
    rw [if_neg z] at mi'
    refine prs_0 (v := -1) h' ?_ ?_
    · simp (disch := omega) only [eX10_back, sX10_back_0, sX10_back_1, sX10_back_2, sX10_back_3, sX10_back_6, sX10_back_9, sX10_back_10, sX10_back_13, sX10_back_14, sX10_back_15, sX10_back_18, sX10_back_21, sX10_back_22, sX10_back_23, sX10_back_24, sX10_back_27, sX10_back_28, sX10_back_29, sX10_back_30, sX10_back_31, sX10_back_34, sX10_back_35, sX10_back_38, sX10_back_41, sX10_back_42, sX10_back_45, sX10_back_46, sX10_back_49, sX10_back_52, sX10_back_53, sX10_back_56, sX10_back_57, sX10_back_60, sX10_back_63, sX10_back_64, sX10_back_65, sX10_back_68, sX10_back_71, sX10_back_72, sX10_back_73, sX10_back_76, sX10_back_79, sX10_back_80, sX10_back_83, sX10_back_86, sX10_back_87, sX10_back_90, sX10_back_91, sX10_back_94, ↓bndi_at wi, ↓if_pos, ↓if_neg]
    · simp (disch := omega) only [eX11_back, sX11_back_0, sX11_back_1, sX11_back_2, sX11_back_3, sX11_back_6, sX11_back_9, sX11_back_12, sX11_back_13, sX11_back_16, sX11_back_17, sX11_back_18, sX11_back_21, sX11_back_22, sX11_back_23, sX11_back_24, sX11_back_25, sX11_back_28, sX11_back_29, sX11_back_30, sX11_back_33, sX11_back_34, sX11_back_35, sX11_back_38, sX11_back_39, sX11_back_40, sX11_back_43, sX11_back_44, sX11_back_45, sX11_back_48, sX11_back_49, sX11_back_51, sX11_back_54, sX11_back_57, sX11_back_58, sX11_back_61, sX11_back_62, sX11_back_63, sX11_back_66, sX11_back_69, sX11_back_70, sX11_back_71, sX11_back_72, sX11_back_73, sX11_back_74, sX11_back_75, sX11_back_78, sX11_back_81, sX11_back_82, sX11_back_85, sX11_back_87, sX11_back_88, ↓bndi_at mi', ↓if_pos, ↓if_neg]
end BK
