/-! rule, the call -/
section KR
variable {A F : Nat → Nat → Int} {E : zE}
theorem RU_g {A' : Nat → Nat → Int} {E' : zE} {k : Nat} (h : RU A E k) (a0 : A' (129 + 3 * k) = A (129 + 3 * k)) (a1 : ∀ j, 400 * k ≤ j → j < 400 * k + 400 → A' 105 j = A 105 j) (a2 : ∀ j, 48 * k ≤ j → j < 48 * k + 48 → A' 107 j = A 107 j) (a3 : A' 108 k = A 108 k) (e : E'.1 k = E.1 k) : RU A' E' k := by
  obtain ⟨Q, q1, q2', q3, q4', q5⟩ := h
  refine ⟨Q, q1, q2', by rw [e, a0]; exact q3, fun u sk => by rw [e, a0]; exact q4' u sk, fun B G D b1 b2 b3 => ?_⟩
  exact q5 B G D (fun j x y => by rw [b1 j x y, a1 j x y]) (fun j x y => by rw [b2 j x y, a2 j x y]) (by rw [b3, a3])
/-- where the class's reading stops *)-/
theorem r_stop (h : inv A F E) (hi : E.2.1 < 6) : ∃ n ρ, crn (A 3) (F 2 1) n (rs0 F) ρ ∧ stpc (A 3) (F 2 1) ρ := by
  obtain ⟨hT, hR, hW, hS, hH, hI⟩ := id h
  obtain ⟨T1, T2, T3, T4, T5, T6⟩ := id hT
  have ck := rs0_ok (F := F) T1.1 T6
  have tm : TM (aup A 108 (fup (A 108) E.2.1 0)) (fF F 11 (E.2.1 : Int)) (A 3) (F 2 1) := ⟨by rw [fF_n (by omega)]; exact T2, T1, T3, fun j hj => by rw [aup_n (by omega)]; exact T4 j hj⟩
  obtain ⟨A', F', -, -, ⟨n, τ, r1, r2, r3⟩ | ⟨-, n, ρ, K, r1, r2, r3, r4⟩⟩ := m_readsAll_r (E := E) (t := E.2.1) hi tm fF_s (by rw [aup_s, fup_s]) rfl rfl rfl ck rfl rfl rfl
  · exact ⟨n, τ, r1, fun q => absurd q r2⟩
  · exact ⟨n, ρ, r1, fun _ => r3⟩
/-- what the model's rule leaves *)-/
def rfX (A F A' F' : Nat → Nat → Int) (t : Nat) : Prop := (∀ j, j ≠ 105 → j ≠ 106 → j ≠ 107 → j ≠ 108 → j ≠ 110 → A' j = A j) ∧ (∀ j, j ≠ 103 → F' j = F j) ∧ (∀ k, 17 ≤ k → F' 103 k = F 103 k) ∧ (∀ j, (j < 400 * t ∨ 400 * t + 400 ≤ j) → A' 105 j = A 105 j) ∧ (∀ j, (j < 48 * t ∨ 48 * t + 48 ≤ j) → A' 107 j = A 107 j) ∧ ∀ j, j ≠ t → A' 108 j = A 108 j
/-- the model reads what the class read *)-/
theorem m_rule_r {A1 F1 : Nat → Nat → Int} {E1 : zE} {n i : Nat} {ρ : zS} (h : inv A F E) (hi : i < 6) (r : crn (A 3) (F 2 1) n (rs0 F) ρ) (s : stpc (A 3) (F 2 1) ρ) (e1 : A1 104 = A 104) (e2 : F1 103 1 = F 103 1) (e3 : F1 103 2 = (i : Int)) : ∃ A' F', rfX A1 F1 A' F' i ∧ F' 103 2 = (i : Int) ∧ (((tkr (A 3) (F 2 1) ρ).1 ≠ -1 ∧ cl mX11_rule [vr 103] (HP A1 F1 E1) = some (vi (-2 - (1 + 8 * (tkx (A 3) (F 2 1) ρ).2.1 + (tkr (A 3) (F 2 1) ρ).1)), HP A' (fF F' 1 0) E1)) ∨ ((tkr (A 3) (F 2 1) ρ).1 = -1 ∧ cl mX11_rule [vr 103] (HP A1 F1 E1) = some (vi (i : Int), HP A' (fF (fF F' 1 0) 2 ((i : Int) + 1)) E1) ∧ ∃ K, (nxs (A 3) (F 2 1) ρ).2.2.1 = Ofl K ∧ RT A' i K ∧ rgd K)) := by
  obtain ⟨hT, hR, hW, hS, hH, hI⟩ := id h
  obtain ⟨T1, T2, T3, T4, T5, T6⟩ := id hT
  have ck := rs0_ok (F := F) T1.1 T6
  have co := (crn_ok T3 n (rs0 F) ρ ck r).1
  have kb := sk_b (b := A 3) co.2.1.2
  have ts : (tkx (A 3) (F 2 1) ρ).2.1 = sk (A 3) (F 2 1) ρ.1 := (tnx_c (va := ρ.2.1) T3 co.2.1.1 co.2.1.2).1
  have tb := tkr_b (b := A 3) (L := F 2 1) (σ := ρ)
  have cx := co.2.1
  have tm : TM (aup A1 108 (fup (A1 108) i 0)) (fF F1 11 (i : Int)) (A 3) (F 2 1) := ⟨by rw [fF_n (by omega), e2]; exact T2, T1, T3, fun j hj => by rw [aup_n (by omega), e1]; exact T4 j hj⟩
  obtain ⟨A', F', m1, m2, m3⟩ := m_readsAll_r (E := E1) (t := i) hi tm fF_s (by rw [aup_s, fup_s]) rfl rfl rfl ck rfl rfl rfl
  have f11 : F' 103 11 = (i : Int) := by rw [m2.2.2.1 11 (by omega) (by omega) (by omega) (by omega) (by omega) (by omega) (by omega), fF_s]
  have f2 : F' 103 2 = (i : Int) := by rw [m2.2.2.1 2 (by omega) (by omega) (by omega) (by omega) (by omega) (by omega) (by omega), fF_n (by omega)]; exact e3
  have fr : rfX A1 F1 A' F' i := by
    refine ⟨fun j a c d e f => ?_, fun j a => ?_, fun k a => ?_, fun j a => ?_, fun j a => ?_, fun j a => ?_⟩
    · rw [m2.1 j a c d e f, aup_n e]
    · rw [m2.2.1 j a, fF_o a]
    · rw [m2.2.2.1 k (by omega) (by omega) (by omega) (by omega) (by omega) (by omega) (by omega), fF_n (by omega)]
    · rw [m2.2.2.2.1 j a, aup_n (by omega)]
    · rw [m2.2.2.2.2.2.1 j a, aup_n (by omega)]
    · rw [m2.2.2.2.2.2.2 j a, aup_s, fup_n a]
  have q : ∀ L st, rn mX11_rule 19 L st (HP A1 (aup F1 103 (fup (F1 103) 11 (i : Int))) E1) = rn mX11_rule 19 L st (HP A1 (fF F1 11 (i : Int)) E1) := fun _ _ => rfl
  have g11 : fF F1 11 (i : Int) 103 11 = (i : Int) := fF_s
  have pre : ∀ z H, cl mX11_readsAll [vr 103] (HP (aup A1 108 (fup (A1 108) i 0)) (fF F1 11 (i : Int)) E1) = some (vi z, H) → cl mX11_rule [vr 103] (HP A1 F1 E1) = rn mX11_rule 33 [vr 103] [vi z] H := by
    intro z H e
    simp (disch := omega) only [eX11_rule, sX11_rule_0, sX11_rule_1, sX11_rule_4, sX11_rule_6, sX11_rule_9, sX11_rule_10, sX11_rule_11, sX11_rule_12, sX11_rule_13, sX11_rule_16, sX11_rule_20, sX11_rule_23, sX11_rule_24, sX11_rule_27, sX11_rule_28, sX11_rule_29, sX11_rule_30, sX11_rule_33, sX11_rule_36, sX11_rule_38, sX11_rule_39, sX11_rule_42, sX11_rule_43, sX11_rule_44, sX11_rule_45, sX11_rule_46, sX11_rule_49, sX11_rule_50, sX11_rule_51, sX11_rule_54, sX11_rule_55, sX11_rule_58, sX11_rule_59, sX11_rule_60, ↓hk103, ↓hf103_2, ↓hp103_11, e3, ↓if_pos, ↓if_neg]
    rw [q]
    simp (disch := omega) only [eX11_rule, sX11_rule_0, sX11_rule_1, sX11_rule_4, sX11_rule_6, sX11_rule_9, sX11_rule_10, sX11_rule_11, sX11_rule_12, sX11_rule_13, sX11_rule_16, sX11_rule_19, sX11_rule_20, sX11_rule_23, sX11_rule_24, sX11_rule_27, sX11_rule_28, sX11_rule_29, sX11_rule_30, sX11_rule_36, sX11_rule_38, sX11_rule_39, sX11_rule_42, sX11_rule_43, sX11_rule_44, sX11_rule_45, sX11_rule_46, sX11_rule_49, sX11_rule_50, sX11_rule_51, sX11_rule_54, sX11_rule_55, sX11_rule_58, sX11_rule_59, sX11_rule_60, ↓hk103, ↓hf103_6, ↓hf103_11, ↓hs108, g11, Int.toNat_natCast, ↓bndi_at e]
    simp (disch := omega) only [eX11_rule, sX11_rule_0, sX11_rule_1, sX11_rule_4, sX11_rule_6, sX11_rule_9, sX11_rule_10, sX11_rule_11, sX11_rule_12, sX11_rule_13, sX11_rule_16, sX11_rule_19, sX11_rule_20, sX11_rule_23, sX11_rule_24, sX11_rule_27, sX11_rule_28, sX11_rule_29, sX11_rule_30, sX11_rule_33, sX11_rule_36, sX11_rule_38, sX11_rule_39, sX11_rule_42, sX11_rule_43, sX11_rule_44, sX11_rule_45, sX11_rule_46, sX11_rule_49, sX11_rule_50, sX11_rule_51, sX11_rule_54, sX11_rule_55, sX11_rule_58, sX11_rule_59, sX11_rule_60]
  have p1 := pre _ _ m1
  refine ⟨A', F', fr, f2, ?_⟩
  rcases m3 with ⟨n2, τ, r1, r2, r3⟩ | ⟨r0, n2, ρ2, K, r1, r2, r3, r4, r5, r6, r7, r8⟩
  · have er : ρ = τ := crn_det n n2 (rs0 F) ρ τ r r1 s (fun q => absurd q r2)
    rw [← er] at r2 r3
    have e9 : fF F' 1 0 103 9 = 1 + 8 * (tkx (A 3) (F 2 1) ρ).2.1 + (tkr (A 3) (F 2 1) ρ).1 := by rw [fF_n (by omega)]; exact r3
    refine Or.inl ⟨r2, ?_⟩
    rw [p1, if_neg (by omega)]
    simp (disch := omega) only [eX11_rule, sX11_rule_0, sX11_rule_1, sX11_rule_4, sX11_rule_6, sX11_rule_9, sX11_rule_10, sX11_rule_11, sX11_rule_12, sX11_rule_13, sX11_rule_16, sX11_rule_19, sX11_rule_20, sX11_rule_23, sX11_rule_24, sX11_rule_27, sX11_rule_28, sX11_rule_29, sX11_rule_30, sX11_rule_33, sX11_rule_36, sX11_rule_38, sX11_rule_39, sX11_rule_42, sX11_rule_43, sX11_rule_44, sX11_rule_45, sX11_rule_46, sX11_rule_49, sX11_rule_50, sX11_rule_51, sX11_rule_54, sX11_rule_55, sX11_rule_58, sX11_rule_59, sX11_rule_60, ↓hf103_9, e9, i32_of, ↓if_pos, ↓if_neg]
  · have er : ρ = ρ2 := crn_det n n2 (rs0 F) ρ ρ2 r r1 s (fun _ => r3)
    rw [← er] at r2 r3 r4 r7 r8
    have nk := nxs_ok T3 co r2
    have vo := nxs_vO co (crn_vO T3 n (rs0 F) ρ ck r ⟨Int.le_refl _, fun o q => by cases q⟩) r2
    have mk := nxs_m co (crn_m T3 n (rs0 F) ρ ck r rfl) r2
    have nl := nk.1.1.2.2.2.2.2.1
    have v6 := nk.1.1.2.2.2.2.1
    have nx := nk.1.2.1
    rw [r4] at vo mk nl
    have f21 : fF F' 1 0 103 2 = (i : Int) := by rw [fF_n (by omega)]; exact f2
    have q3 : ∀ L st, rn mX11_rule 54 L st (HP A' (aup (fF F' 1 0) 103 (fup (fF F' 1 0 103) 2 ((i : Int) + 1))) E1) = rn mX11_rule 54 L st (HP A' (fF (fF F' 1 0) 2 ((i : Int) + 1)) E1) := fun _ _ => rfl
    have f22 : fF (fF F' 1 0) 2 ((i : Int) + 1) 103 2 = (i : Int) + 1 := fF_s
    have ii : (i : Int) + 1 - 1 = (i : Int) := by omega
    refine Or.inr ⟨r2, ?_, K, r4, r5, rgd_of r5 r6 (by omega) vo v6.2 mk r7 r8⟩
    rw [p1, if_pos r0]
    simp (disch := omega) only [eX11_rule, sX11_rule_0, sX11_rule_1, sX11_rule_4, sX11_rule_6, sX11_rule_9, sX11_rule_10, sX11_rule_11, sX11_rule_12, sX11_rule_13, sX11_rule_16, sX11_rule_19, sX11_rule_20, sX11_rule_23, sX11_rule_24, sX11_rule_27, sX11_rule_28, sX11_rule_29, sX11_rule_30, sX11_rule_33, sX11_rule_36, sX11_rule_38, sX11_rule_39, sX11_rule_42, sX11_rule_43, sX11_rule_44, sX11_rule_45, sX11_rule_46, sX11_rule_49, sX11_rule_50, sX11_rule_51, sX11_rule_55, sX11_rule_58, sX11_rule_59, sX11_rule_60, ↓hf103_2, ↓hp103_2, f21, i32_of, ↓if_pos, ↓if_neg]
    rw [q3]
    simp (disch := omega) only [eX11_rule, sX11_rule_0, sX11_rule_1, sX11_rule_4, sX11_rule_6, sX11_rule_9, sX11_rule_10, sX11_rule_11, sX11_rule_12, sX11_rule_13, sX11_rule_16, sX11_rule_19, sX11_rule_20, sX11_rule_23, sX11_rule_24, sX11_rule_27, sX11_rule_28, sX11_rule_29, sX11_rule_30, sX11_rule_33, sX11_rule_36, sX11_rule_38, sX11_rule_39, sX11_rule_42, sX11_rule_43, sX11_rule_44, sX11_rule_45, sX11_rule_46, sX11_rule_49, sX11_rule_50, sX11_rule_51, sX11_rule_54, sX11_rule_55, sX11_rule_58, sX11_rule_59, sX11_rule_60, ↓hf103_2, f22, i32_of, ii]
end KR
