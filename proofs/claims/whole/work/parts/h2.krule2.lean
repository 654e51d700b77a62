/-! rule, the call: both, and what holds behind it -/
section KR2
variable {A F : Nat → Nat → Int} {E : zE}
/-- what holds behind a rule read, but for the rules *)-/
theorem rule_inv {A1 F1 A' F' : Nat → Nat → Int} {E' : zE} {i : Nat} (h : inv A F E) (k1 : ∀ j, j ≠ 7 → j ≠ 8 → j < 127 → A1 j = A j) (k2 : ∀ j, j ≠ 1 → j ≠ 2 → j ≠ 6 → F1 j = F j) (fx : rfX A1 F1 A' F' i) (c1 : F' 2 1 = 0) (c3 : 0 ≤ F' 2 3 ∧ F' 2 3 ≤ 400) (c5 : -1 ≤ F' 2 5 ∧ F' 2 5 ≤ 99999) (c6 : F' 103 1 = 0) (le : (E.2.1 : Int) ≤ (E'.2.1 : Int)) (hR : iR A' F' E') : inv A' F' E' := by
  obtain ⟨hT, -, hW, hS, hH, hI⟩ := h
  obtain ⟨T1, T2, T3, T4, T5, T6⟩ := hT
  have kA : ∀ j, j ≠ 7 → j ≠ 8 → (j < 105 ∨ j = 109 ∨ (111 ≤ j ∧ j < 127)) → A' j = A j := fun j a c d => by
    rw [fx.1 j (by omega) (by omega) (by omega) (by omega) (by omega), k1 j a c (by omega)]
  have kF : ∀ j, j ≠ 1 → j ≠ 2 → j ≠ 6 → j ≠ 103 → F' j = F j := fun j a c d e => by rw [fx.2.1 j e, k2 j a c d]
  have kf : ∀ k, 17 ≤ k → F' 103 k = F 103 k := fun k a => by rw [fx.2.2.1 k a, k2 103 (by omega) (by omega) (by omega)]
  refine ⟨⟨by rw [c1]; omega, by rw [c1, c6], by rw [kA 3 (by omega) (by omega) (by omega)]; exact T3, fun j hj => by rw [c1] at hj; omega, c3, c5⟩, hR, ?_, ?_, ?_, ?_⟩
  · refine iW_f hW (fun j a c _ => kA j (by omega) (by omega) (by omega)) ?_
    rw [kA 15 (by omega) (by omega) (by omega)]
    exact hW.1 14 wad_14
  · unfold iS at *
    rw [kA 13 (by omega) (by omega) (by omega), kA 11 (by omega) (by omega) (by omega), kA 17 (by omega) (by omega) (by omega), kA 18 (by omega) (by omega) (by omega), kA 19 (by omega) (by omega) (by omega), kA 113 (by omega) (by omega) (by omega), kF 16 (by omega) (by omega) (by omega) (by omega)]
    exact hS
  · exact iH_f hH (fun j a => kA j (by omega) (by omega) (by omega)) (kF 20 (by omega) (by omega) (by omega) (by omega)) (kf 24 (by omega))
  · have hI' := iI_f hI (fun j a => kA j (by omega) (by omega) (by omega)) (fun j a c => kF j (by omega) (by omega) (by omega) (by omega))
    intro k hk
    obtain ⟨a1, a2, a3⟩ := hI' k hk
    refine ⟨a1, a2, fun q => ?_⟩
    obtain ⟨b1, b2, b3, b4⟩ := a3 q
    exact ⟨b1, b2, ⟨b3.1, by omega⟩, b4⟩
theorem k_rule (h : inv A F E) : prs mX10_rule mX11_rule [] A F E := by
  obtain ⟨hT, hR, hW, hS, hH, hI⟩ := id h
  obtain ⟨T1, T2, T3, T4, T5, T6⟩ := id hT
  obtain ⟨R1, R2, R3, R4, R5, R6, R7, R8, R9⟩ := id hR
  by_cases h6 : E.2.1 = 6
  · refine prs_0 (v := -1) h ?_ ?_
    · simp (disch := omega) only [eX10_rule, sX10_rule_0, sX10_rule_1, sX10_rule_4, sX10_rule_6, sX10_rule_9, sX10_rule_10, sX10_rule_11, sX10_rule_12, sX10_rule_15, sX10_rule_16, sX10_rule_19, sX10_rule_22, sX10_rule_23, sX10_rule_24, sX10_rule_27, sX10_rule_28, sX10_rule_31, sX10_rule_32, sX10_rule_35, sX10_rule_37, sX10_rule_38, sX10_rule_39, sX10_rule_40, sX10_rule_41, sX10_rule_44, sX10_rule_45, sX10_rule_48, sX10_rule_49, sX10_rule_52, sX10_rule_55, sX10_rule_56, sX10_rule_57, sX10_rule_58, sX10_rule_61, sX10_rule_62, sX10_rule_63, sX10_rule_66, sX10_rule_67, sX10_rule_70, sX10_rule_71, sX10_rule_72, ↓hk1, ↓hf1_4, R3, ↓if_pos, ↓if_neg]
    · simp (disch := omega) only [eX11_rule, sX11_rule_0, sX11_rule_1, sX11_rule_4, sX11_rule_6, sX11_rule_9, sX11_rule_10, sX11_rule_11, sX11_rule_12, sX11_rule_13, sX11_rule_16, sX11_rule_19, sX11_rule_20, sX11_rule_23, sX11_rule_24, sX11_rule_27, sX11_rule_28, sX11_rule_29, sX11_rule_30, sX11_rule_33, sX11_rule_36, sX11_rule_38, sX11_rule_39, sX11_rule_42, sX11_rule_43, sX11_rule_44, sX11_rule_45, sX11_rule_46, sX11_rule_49, sX11_rule_50, sX11_rule_51, sX11_rule_54, sX11_rule_55, sX11_rule_58, sX11_rule_59, sX11_rule_60, ↓hk103, ↓hf103_2, R4, ↓if_pos, ↓if_neg]
  have hi : E.2.1 < 6 := by omega
  obtain ⟨n, ρ, r, s⟩ := r_stop h hi
  have ck := rs0_ok (F := F) T1.1 T6
  obtain ⟨A1, F1, c1, c2, c3, co⟩ := c_read (E := E) T3 T1 T5 T6 r s
  have kb := sk_b (b := A 3) co.2.1.2
  have ts : (tkx (A 3) (F 2 1) ρ).2.1 = sk (A 3) (F 2 1) ρ.1 := (tnx_c (va := ρ.2.1) T3 co.2.1.1 co.2.1.2).1
  have tb := tkr_b (b := A 3) (L := F 2 1) (σ := ρ)
  have tp := t_pl (b := A 3) (L := F 2 1) (p := ρ.1) (va := ρ.2.1) co.2.1 co.2.2
  have cx := co.2.1
  obtain ⟨s1, s2, s3, s4, s5, s6⟩ := c3
  have s5' : F1 2 5 = (tkx (A 3) (F 2 1) ρ).2.2.2 := s5
  have tp2 : -1 ≤ F1 2 5 ∧ F1 2 5 ≤ 99999 := by rw [s5']; exact tp.2
  have cu := h_cut (A := A1) (F := F1) (E := E) (v := 0)
  generalize hF2 : aup F1 2 (fup (F1 2) 1 0) = F2 at *
  have kF2 : ∀ j, j ≠ 2 → j ≠ 6 → F2 j = F j := fun j a c => by rw [← hF2, aup_n a, c2.2 j c a]
  have f21 : F2 2 1 = 0 := by rw [← hF2, aup_s, fup_s]
  have f23 : F2 2 3 = F1 2 3 := by rw [← hF2, aup_s, fup_n (by omega)]
  have f25 : F2 2 5 = F1 2 5 := by rw [← hF2, aup_s, fup_n (by omega)]
  have f26 : F2 6 = F1 6 := by rw [← hF2, aup_n (by omega)]
  by_cases z : (tkr (A 3) (F 2 1) ρ).1 = -1
  · -- a good rule
    rw [if_pos z] at c1
    generalize hn0 : (nxs (A 3) (F 2 1) ρ).2.2.1.length = n0 at *
    have nk := nxs_ok T3 co z
    have nl := nk.1.1.2.2.2.2.2.1
    have nx := nk.1.2.1
    rw [hn0] at nl
    have n4 : n0 ≤ 400 := by
      have : (0 : Int) ≤ if (nxs (A 3) (F 2 1) ρ).2.2.2.2 4 = 0 then 0 else 1 := by split <;> omega
      omega
    have s11 : F2 6 1 = (n0 : Int) := by rw [f26, s1.1, hn0]
    have md := R_made (A := A1) (F := F2) (E := E) hi s11 n4
    have hn := HP_new (A := A1) (F := F2) (E := E) (n := n0) (c := fun j => if j < n0 then A1 7 j else 0) hi
    generalize hRH : rnH (zpu (HP A1 F2 E) 2 (zob 4 [vr 0, vr 0])) (126 + 3 * E.2.1 + 1) n0 (fun j => if j < n0 then A1 7 j else 0) = RH' at *
    have z1 : (zpu (HP A1 F2 E) 2 (zob 4 [vr 0, vr 0])).1.1 = 126 + 3 * E.2.1 + 1 := rfl
    have z0 : (HP A1 F2 E).1.1 = 126 + 3 * E.2.1 := rfl
    have h9 : RH'.2 9 = zar 5 6 (hRu E) := by
      rw [← hRH, rnH_c (by rw [z1]; omega), z1, if_neg (by omega), if_neg (by omega), if_neg (by omega), zpu_n (by rw [z0]; omega)]
      rfl
    have hv : ∃ fs, RH'.2 (126 + 3 * E.2.1 + 1) = zob 4 fs := ⟨_, by
      rw [← hRH, rnH_c (by rw [z1]; omega), z1, if_neg (by omega), if_pos rfl]⟩
    obtain ⟨fs, hv⟩ := hv
    have se := fun (K : zC → Option (zV × zH)) => sea_9 (K := K) (z := (E.2.1 : Int)) h9 hv (by omega) (by omega)
    rw [Int.toNat_natCast] at se
    generalize hA2 : aup (aup A1 (128 + 3 * E.2.1) (fun _ => 0)) (129 + 3 * E.2.1) (fun j => if j < n0 then A1 7 j else 0) = A2 at *
    have a29 : A2 (129 + 3 * E.2.1) = fun j => if j < n0 then A1 7 j else 0 := by rw [← hA2, aup_s]
    have kA2 : ∀ j, j ≠ 128 + 3 * E.2.1 → j ≠ 129 + 3 * E.2.1 → A2 j = A1 j := fun j a c => by rw [← hA2, aup_n c, aup_n a]
    have g14 : F2 1 4 = (E.2.1 : Int) := by rw [kF2 1 (by omega) (by omega)]; exact R3
    generalize hF3 : aup F2 1 (fup (F2 1) 4 ((E.2.1 : Int) + 1)) = F3 at *
    have kF3 : ∀ j, j ≠ 1 → F3 j = F2 j := fun j a => by rw [← hF3, aup_n a]
    have f14 : F3 1 4 = (E.2.1 : Int) + 1 := by rw [← hF3, aup_s, fup_s]
    have ii : (E.2.1 : Int) + 1 - 1 = (E.2.1 : Int) := by omega
    have cls : cl mX10_rule [vr 1] (HP A F E) = some (vi (E.2.1 : Int), HP A2 F3 (eUp E n0)) := by
      simp (disch := omega) only [eX10_rule, sX10_rule_0, sX10_rule_1, sX10_rule_4, sX10_rule_6, sX10_rule_9, sX10_rule_10, sX10_rule_11, sX10_rule_12, sX10_rule_15, sX10_rule_16, sX10_rule_19, sX10_rule_22, sX10_rule_23, sX10_rule_24, sX10_rule_27, sX10_rule_28, sX10_rule_31, sX10_rule_32, sX10_rule_35, sX10_rule_37, sX10_rule_38, sX10_rule_39, sX10_rule_40, sX10_rule_41, sX10_rule_44, sX10_rule_45, sX10_rule_48, sX10_rule_49, sX10_rule_52, sX10_rule_55, sX10_rule_56, sX10_rule_57, sX10_rule_58, sX10_rule_61, sX10_rule_62, sX10_rule_63, sX10_rule_66, sX10_rule_67, sX10_rule_70, sX10_rule_71, sX10_rule_72, ↓hk1, ↓hk2, ↓hk6, ↓hf1_4, ↓hf1_2, ↓hf1_0, ↓hf1_3, R3, ↓bndi_at c1, ↓bndv_at cu, g14, ↓bndr_at md, ↓se, hn, ↓hp1_4, i32_of, hF3, f14, ii, ↓if_pos, ↓if_neg]
    obtain ⟨A', F', m1, m2, ⟨m3, -⟩ | ⟨-, m3, K, m4, m5, m6⟩⟩ := m_rule_r (A1 := A2) (F1 := F3) (E1 := eUp E n0) (i := E.2.1) h hi r s (by rw [kA2 104 (by omega) (by omega), c2.1 104 (by omega) (by omega)]) (by rw [kF3 103 (by omega), kF2 103 (by omega) (by omega)]) (by rw [kF3 103 (by omega), kF2 103 (by omega) (by omega)]; exact R4)
    · exact absurd z m3
    · have fF2 : ∀ j, j ≠ 103 → fF (fF F' 1 0) 2 ((E.2.1 : Int) + 1) j = F3 j := fun j a => by rw [fF_o a, fF_o a, m1.2.1 j a]
      have fFk : ∀ k, 17 ≤ k → fF (fF F' 1 0) 2 ((E.2.1 : Int) + 1) 103 k = F3 103 k := fun k a => by rw [fF_n (by omega), fF_n (by omega), m1.2.2.1 k a]
      have mm : rfX A2 F3 A' (fF (fF F' 1 0) 2 ((E.2.1 : Int) + 1)) E.2.1 := ⟨m1.1, fF2, fFk, m1.2.2.2⟩
      have l0 : n0 = (Ofl K).length := by rw [← hn0, m4]
      have kA : ∀ j, 127 ≤ j → j ≠ 128 + 3 * E.2.1 → j ≠ 129 + 3 * E.2.1 → A' j = A j := fun j a c d => by
        rw [m1.1 j (by omega) (by omega) (by omega) (by omega) (by omega), kA2 j c d, c2.1 j (by omega) (by omega)]
      refine ⟨(E.2.1 : Int), A2, F3, eUp E n0, A', fF (fF F' 1 0) 2 ((E.2.1 : Int) + 1), eUp E n0, cls, m3, ?_, rfl⟩
      refine rule_inv (i := E.2.1) h (fun j a c d => by rw [kA2 j (by omega) (by omega), c2.1 j a c]) (fun j a c d => by rw [kF3 j a, kF2 j c d]) mm ?_ ?_ ?_ ?_ ?_ ?_
      · rw [fF2 2 (by omega), kF3 2 (by omega)]; exact f21
      · rw [fF2 2 (by omega), kF3 2 (by omega), f23]; exact s6
      · rw [fF2 2 (by omega), kF3 2 (by omega), f25]; exact tp2
      · rw [fF_n (by omega), fF_s]
      · show (E.2.1 : Int) ≤ ((E.2.1 + 1 : Nat) : Int); omega
      · have e1 : (eUp E n0).2.1 = E.2.1 + 1 := rfl
        have e2 : (eUp E n0).2.2.1 = E.2.2.1 + 2 + 62 + n0 := rfl
        have g1 : ∀ k, k ≠ 4 → fF (fF F' 1 0) 2 ((E.2.1 : Int) + 1) 1 k = F 1 k := fun k a => by rw [fF2 1 (by omega), ← hF3, aup_s, fup_n a, kF2 1 (by omega) (by omega)]
        have g2 : ∀ k, 17 ≤ k → fF (fF F' 1 0) 2 ((E.2.1 : Int) + 1) 103 k = F 103 k := fun k a => by rw [fFk k a, kF3 103 (by omega), kF2 103 (by omega) (by omega)]
        refine ⟨by omega, by omega, ?_, ?_, ?_, ?_, ?_, ?_, fun k hk => ?_⟩
        · rw [fF2 1 (by omega), f14, e1]; omega
        · rw [fF_s, e1]; omega
        · rw [g1 5 (by omega), e1]; omega
        · rw [g2 21 (by omega), g1 5 (by omega)]; exact R6
        · rw [g2 22 (by omega), g1 6 (by omega)]; exact R7
        · rw [g1 6 (by omega)]; exact R8
        · rw [e1] at hk
          by_cases q : k = E.2.1
          · rw [q]
            refine RU_of hi m5 m6 (by rw [← l0]; exact if_pos rfl) (fun j hj => ?_)
            rw [m1.1 (129 + 3 * E.2.1) (by omega) (by omega) (by omega) (by omega) (by omega), a29]
            dsimp only
            rw [if_pos (by omega), ← m4]
            exact s1.2.1 j (by rw [m4]; exact hj)
          · refine RU_g (R9 k (by omega)) (kA _ (by omega) (by omega) (by omega)) (fun j x y => ?_) (fun j x y => ?_) ?_ (if_neg q)
            · rw [m1.2.2.2.1 j (by omega), kA2 105 (by omega) (by omega), c2.1 105 (by omega) (by omega)]
            · rw [m1.2.2.2.2.1 j (by omega), kA2 107 (by omega) (by omega), c2.1 107 (by omega) (by omega)]
            · rw [m1.2.2.2.2.2 k q, kA2 108 (by omega) (by omega), c2.1 108 (by omega) (by omega)]
  · -- a faulty rule
    rw [if_neg z] at c1
    generalize hfv : 1 + 8 * (tkx (A 3) (F 2 1) ρ).2.1 + (tkr (A 3) (F 2 1) ρ).1 = fv at *
    have cls : cl mX10_rule [vr 1] (HP A F E) = some (vi (-2 - fv), HP A1 F2 E) := by
      simp (disch := omega) only [eX10_rule, sX10_rule_0, sX10_rule_1, sX10_rule_4, sX10_rule_6, sX10_rule_9, sX10_rule_10, sX10_rule_11, sX10_rule_12, sX10_rule_15, sX10_rule_16, sX10_rule_19, sX10_rule_22, sX10_rule_23, sX10_rule_24, sX10_rule_27, sX10_rule_28, sX10_rule_31, sX10_rule_32, sX10_rule_35, sX10_rule_37, sX10_rule_38, sX10_rule_39, sX10_rule_40, sX10_rule_41, sX10_rule_44, sX10_rule_45, sX10_rule_48, sX10_rule_49, sX10_rule_52, sX10_rule_55, sX10_rule_56, sX10_rule_57, sX10_rule_58, sX10_rule_61, sX10_rule_62, sX10_rule_63, sX10_rule_66, sX10_rule_67, sX10_rule_70, sX10_rule_71, sX10_rule_72, ↓hk1, ↓hk2, ↓hk6, ↓hf1_4, ↓hf1_2, ↓hf1_0, R3, ↓bndi_at c1, ↓bndv_at cu, i32_of, ↓if_pos, ↓if_neg]
    obtain ⟨A', F', m1, m2, ⟨-, m3⟩ | ⟨m3, -⟩⟩ := m_rule_r (A1 := A1) (F1 := F2) (E1 := E) (i := E.2.1) h hi r s (c2.1 104 (by omega) (by omega)) (by rw [kF2 103 (by omega) (by omega)]) (by rw [kF2 103 (by omega) (by omega)]; exact R4)
    · rw [hfv] at m3
      have fF2 : ∀ j, j ≠ 103 → fF F' 1 0 j = F2 j := fun j a => by rw [fF_o a, m1.2.1 j a]
      have fFk : ∀ k, 17 ≤ k → fF F' 1 0 103 k = F2 103 k := fun k a => by rw [fF_n (by omega), m1.2.2.1 k a]
      have mm : rfX A1 F2 A' (fF F' 1 0) E.2.1 := ⟨m1.1, fF2, fFk, m1.2.2.2⟩
      have kA : ∀ j, 127 ≤ j → A' j = A j := fun j a => by
        rw [m1.1 j (by omega) (by omega) (by omega) (by omega) (by omega), c2.1 j (by omega) (by omega)]
      refine ⟨-2 - fv, A1, F2, E, A', fF F' 1 0, E, cls, m3, ?_, rfl⟩
      refine rule_inv (i := E.2.1) h (fun j a c d => c2.1 j a c) (fun j a c d => kF2 j c d) mm ?_ ?_ ?_ ?_ (Int.le_refl _) ?_
      · rw [fF2 2 (by omega)]; exact f21
      · rw [fF2 2 (by omega), f23]; exact s6
      · rw [fF2 2 (by omega), f25]; exact tp2
      · rw [fF_s]
      · have g1 : fF F' 1 0 1 = F 1 := by rw [fF2 1 (by omega), kF2 1 (by omega) (by omega)]
        have g2 : ∀ k, 17 ≤ k → fF F' 1 0 103 k = F 103 k := fun k a => by rw [fFk k a, kF2 103 (by omega) (by omega)]
        refine ⟨R1, R2, by rw [g1]; exact R3, ?_, by rw [g1]; exact R5, ?_, ?_, by rw [g1]; exact R8, fun k hk => ?_⟩
        · rw [fF_n (by omega)]; exact m2
        · rw [g2 21 (by omega), g1]; exact R6
        · rw [g2 22 (by omega), g1]; exact R7
        · refine RU_g (R9 k hk) (kA _ (by omega)) (fun j x y => ?_) (fun j x y => ?_) ?_ rfl
          · rw [m1.2.2.2.1 j (by omega), c2.1 105 (by omega) (by omega)]
          · rw [m1.2.2.2.2.1 j (by omega), c2.1 107 (by omega) (by omega)]
          · rw [m1.2.2.2.2.2 k (by omega), c2.1 108 (by omega) (by omega)]
    · exact absurd m3 z
end KR2
