/-! acts kept: the model's copies, the class's ring -/
section KP
variable {E : zE}
theorem m_keeps_l : ∀ (n k : Nat) (A F : Nat → Nat → Int), k + n = 76 → ∃ W, rn mX11_keeps 2 [vr 103, vi (k : Int)] [] (HP A F E) = some (vn, HP (aup A 115 W) F E) ∧ ∀ j, W j = if k ≤ j ∧ j < 76 then A 113 (10 + j) else A 115 j := by
  intro n
  induction n with
  | zero =>
    intro k A F hk
    have : k = 76 := by omega
    subst this
    refine ⟨A 115, ?_, fun j => by rw [if_neg (by omega)]⟩
    rw [sX11_keeps_2, aup_id]
    simp (disch := omega) only [eX11_keeps, sX11_keeps_0, sX11_keeps_1, sX11_keeps_3, sX11_keeps_5, sX11_keeps_8, sX11_keeps_9, sX11_keeps_12, sX11_keeps_13, sX11_keeps_14, sX11_keeps_17, sX11_keeps_19, sX11_keeps_20, sX11_keeps_21, sX11_keeps_22, sX11_keeps_23, sX11_keeps_26, sX11_keeps_29, ↓if_pos]
  | succ n ih =>
    intro k A F hk
    obtain ⟨W, r1, r2⟩ := ih (k + 1) (aup A 115 (fup (A 115) k (A 113 (10 + k)))) F (by omega)
    rw [aup_aup] at r1
    have tn : (10 + (k : Int)).toNat = 10 + k := by omega
    refine ⟨W, ?_, fun j => ?_⟩
    · rw [← r1, sX11_keeps_2]
      simp (disch := omega) only [eX11_keeps, sX11_keeps_0, sX11_keeps_1, sX11_keeps_3, sX11_keeps_5, sX11_keeps_8, sX11_keeps_9, sX11_keeps_12, sX11_keeps_13, sX11_keeps_14, sX11_keeps_17, sX11_keeps_19, sX11_keeps_20, sX11_keeps_21, sX11_keeps_22, sX11_keeps_23, sX11_keeps_26, sX11_keeps_29, ↓hf103_25, ↓hf103_20, ↓hg113, ↓hs115, ↓if_neg, i32_of, tn, Int.toNat_natCast]
      rfl
    · rw [r2, aup_n (by omega), aup_s]
      by_cases q : j = k
      · subst q; rw [if_neg (by omega), if_pos (by omega), fup_s]
      · by_cases q2 : k ≤ j ∧ j < 76
        · rw [if_pos (by omega), if_pos q2]
        · rw [if_neg (by omega), if_neg q2, fup_n q]
theorem m_keeps {A F : Nat → Nat → Int} : ∃ W, cl mX11_keeps [vr 103] (HP A F E) = some (vn, HP (aup A 115 W) F E) ∧ ∀ j, j < 76 → W j = A 113 (10 + j) := by
  obtain ⟨W, r1, r2⟩ := m_keeps_l (E := E) 76 0 A F (by omega)
  refine ⟨W, ?_, fun j hj => by rw [r2, if_pos (by omega)]⟩
  rw [← r1]
  simp only [eX11_keeps, sX11_keeps_0, sX11_keeps_1, sX11_keeps_3, sX11_keeps_5, sX11_keeps_8, sX11_keeps_9, sX11_keeps_12, sX11_keeps_13, sX11_keeps_14, sX11_keeps_17, sX11_keeps_19, sX11_keeps_20, sX11_keeps_21, sX11_keeps_22, sX11_keeps_23, sX11_keeps_26, sX11_keeps_29]
  rfl
theorem m_lays_l : ∀ (n k : Nat) (A F : Nat → Nat → Int), k + n = 76 → ∃ W, rn mX11_laysBack 2 [vr 103, vi (k : Int)] [] (HP A F E) = some (vn, HP (aup A 113 W) F E) ∧ ∀ j, W j = if 10 + k ≤ j ∧ j < 86 then A 115 (j - 10) else A 113 j := by
  intro n
  induction n with
  | zero =>
    intro k A F hk
    have : k = 76 := by omega
    subst this
    refine ⟨A 113, ?_, fun j => by rw [if_neg (by omega)]⟩
    rw [sX11_laysBack_2, aup_id]
    simp (disch := omega) only [eX11_laysBack, sX11_laysBack_0, sX11_laysBack_1, sX11_laysBack_3, sX11_laysBack_5, sX11_laysBack_8, sX11_laysBack_9, sX11_laysBack_12, sX11_laysBack_14, sX11_laysBack_15, sX11_laysBack_16, sX11_laysBack_17, sX11_laysBack_20, sX11_laysBack_21, sX11_laysBack_22, sX11_laysBack_23, sX11_laysBack_26, sX11_laysBack_29, ↓if_pos]
  | succ n ih =>
    intro k A F hk
    obtain ⟨W, r1, r2⟩ := ih (k + 1) (aup A 113 (fup (A 113) (10 + k) (A 115 k))) F (by omega)
    rw [aup_aup] at r1
    have tn : (10 + (k : Int)).toNat = 10 + k := by omega
    refine ⟨W, ?_, fun j => ?_⟩
    · rw [← r1, sX11_laysBack_2]
      simp (disch := omega) only [eX11_laysBack, sX11_laysBack_0, sX11_laysBack_1, sX11_laysBack_3, sX11_laysBack_5, sX11_laysBack_8, sX11_laysBack_9, sX11_laysBack_12, sX11_laysBack_14, sX11_laysBack_15, sX11_laysBack_16, sX11_laysBack_17, sX11_laysBack_20, sX11_laysBack_21, sX11_laysBack_22, sX11_laysBack_23, sX11_laysBack_26, sX11_laysBack_29, ↓hf103_25, ↓hf103_20, ↓hg115, ↓hs113, ↓if_neg, i32_of, tn, Int.toNat_natCast]
      rfl
    · rw [r2, aup_n (by omega), aup_s]
      by_cases q : j = 10 + k
      · subst q; rw [if_neg (by omega), if_pos (by omega), fup_s, show 10 + k - 10 = k by omega]
      · by_cases q2 : 10 + k ≤ j ∧ j < 86
        · rw [if_pos (by omega), if_pos q2]
        · rw [if_neg (by omega), if_neg q2, fup_n q]
theorem m_lays {A F : Nat → Nat → Int} : ∃ W, cl mX11_laysBack [vr 103] (HP A F E) = some (vn, HP (aup A 113 W) F E) ∧ ∀ j, W j = if 10 ≤ j ∧ j < 86 then A 115 (j - 10) else A 113 j := by
  obtain ⟨W, r1, r2⟩ := m_lays_l (E := E) 76 0 A F (by omega)
  refine ⟨W, ?_, r2⟩
  rw [← r1]
  simp only [eX11_laysBack, sX11_laysBack_0, sX11_laysBack_1, sX11_laysBack_3, sX11_laysBack_5, sX11_laysBack_8, sX11_laysBack_9, sX11_laysBack_12, sX11_laysBack_14, sX11_laysBack_15, sX11_laysBack_16, sX11_laysBack_17, sX11_laysBack_20, sX11_laysBack_21, sX11_laysBack_22, sX11_laysBack_23, sX11_laysBack_26, sX11_laysBack_29]
  rfl
theorem m_ka1 : ∀ (n k : Nat) (A F : Nat → Nat → Int), k + n = 1520 → 76 ≤ k → ∃ W, rn mX11_keepsAct 12 [vr 103, vi (k : Int)] [] (HP A F E) = rn mX11_keepsAct 40 [vr 103, vi 1520] [] (HP (aup A 114 W) F E) ∧ ∀ j, W j = if k ≤ j + 76 ∧ j < 1444 then A 114 (j + 76) else A 114 j := by
  intro n
  induction n with
  | zero =>
    intro k A F hk h1
    have : k = 1520 := by omega
    subst this
    refine ⟨A 114, ?_, fun j => by rw [if_neg (by omega)]⟩
    rw [sX11_keepsAct_12, aup_id]
    simp (disch := omega) only [eX11_keepsAct, sX11_keepsAct_0, sX11_keepsAct_1, sX11_keepsAct_4, sX11_keepsAct_6, sX11_keepsAct_9, sX11_keepsAct_11, sX11_keepsAct_13, sX11_keepsAct_16, sX11_keepsAct_19, sX11_keepsAct_20, sX11_keepsAct_23, sX11_keepsAct_24, sX11_keepsAct_26, sX11_keepsAct_27, sX11_keepsAct_28, sX11_keepsAct_31, sX11_keepsAct_32, sX11_keepsAct_33, sX11_keepsAct_34, sX11_keepsAct_37, sX11_keepsAct_41, sX11_keepsAct_42, sX11_keepsAct_45, sX11_keepsAct_46, sX11_keepsAct_47, sX11_keepsAct_50, sX11_keepsAct_51, sX11_keepsAct_53, sX11_keepsAct_55, sX11_keepsAct_58, sX11_keepsAct_59, sX11_keepsAct_62, sX11_keepsAct_64, sX11_keepsAct_65, sX11_keepsAct_68, sX11_keepsAct_69, sX11_keepsAct_70, sX11_keepsAct_71, sX11_keepsAct_72, sX11_keepsAct_75, sX11_keepsAct_77, sX11_keepsAct_78, sX11_keepsAct_79, sX11_keepsAct_80, sX11_keepsAct_81, sX11_keepsAct_84, sX11_keepsAct_87, sX11_keepsAct_88, sX11_keepsAct_89, sX11_keepsAct_92, sX11_keepsAct_93, sX11_keepsAct_94, sX11_keepsAct_97, ↓if_pos]
    rfl
  | succ n ih =>
    intro k A F hk h1
    obtain ⟨W, r1, r2⟩ := ih (k + 1) (aup A 114 (fup (A 114) (k - 76) (A 114 k))) F (by omega) (by omega)
    rw [aup_aup] at r1
    have tn : ((k : Int) - 76).toNat = k - 76 := by omega
    refine ⟨W, ?_, fun j => ?_⟩
    · rw [← r1, sX11_keepsAct_12]
      simp (disch := omega) only [eX11_keepsAct, sX11_keepsAct_0, sX11_keepsAct_1, sX11_keepsAct_4, sX11_keepsAct_6, sX11_keepsAct_9, sX11_keepsAct_11, sX11_keepsAct_13, sX11_keepsAct_16, sX11_keepsAct_19, sX11_keepsAct_20, sX11_keepsAct_23, sX11_keepsAct_24, sX11_keepsAct_26, sX11_keepsAct_27, sX11_keepsAct_28, sX11_keepsAct_31, sX11_keepsAct_32, sX11_keepsAct_33, sX11_keepsAct_34, sX11_keepsAct_37, sX11_keepsAct_41, sX11_keepsAct_42, sX11_keepsAct_45, sX11_keepsAct_46, sX11_keepsAct_47, sX11_keepsAct_50, sX11_keepsAct_51, sX11_keepsAct_53, sX11_keepsAct_55, sX11_keepsAct_58, sX11_keepsAct_59, sX11_keepsAct_62, sX11_keepsAct_64, sX11_keepsAct_65, sX11_keepsAct_68, sX11_keepsAct_69, sX11_keepsAct_70, sX11_keepsAct_71, sX11_keepsAct_72, sX11_keepsAct_75, sX11_keepsAct_77, sX11_keepsAct_78, sX11_keepsAct_79, sX11_keepsAct_80, sX11_keepsAct_81, sX11_keepsAct_84, sX11_keepsAct_87, sX11_keepsAct_88, sX11_keepsAct_89, sX11_keepsAct_92, sX11_keepsAct_93, sX11_keepsAct_94, sX11_keepsAct_97, ↓hf103_23, ↓hg114, ↓hs114, ↓if_neg, i32_of, tn, Int.toNat_natCast]
      rfl
    · rw [r2, aup_s]
      by_cases q : j = k - 76
      · subst q; rw [if_neg (by omega), if_pos (by omega), fup_s, show k - 76 + 76 = k by omega]
      · by_cases q2 : k ≤ j + 76 ∧ j < 1444
        · rw [if_pos (by omega), if_pos q2, fup_n (by omega)]
        · rw [if_neg (by omega), if_neg q2, fup_n q]
theorem m_ka2 {u : Nat} (hu : u ≤ 19) : ∀ (n k : Nat) (A F : Nat → Nat → Int), k + n = 76 → F 103 24 = (u : Int) → ∃ W, rn mX11_keepsAct 52 [vr 103, vi (k : Int)] [] (HP A F E) = some (vn, HP (aup A 114 W) (aup F 103 (fup (F 103) 24 ((u : Int) + 1))) E) ∧ ∀ j, W j = if 76 * u + k ≤ j ∧ j < 76 * u + 76 then A 113 (10 + (j - 76 * u)) else A 114 j := by
  intro n
  induction n with
  | zero =>
    intro k A F hk h1
    have : k = 76 := by omega
    subst this
    refine ⟨A 114, ?_, fun j => by rw [if_neg (by omega)]⟩
    rw [sX11_keepsAct_52, aup_id]
    simp (disch := omega) only [eX11_keepsAct, sX11_keepsAct_0, sX11_keepsAct_1, sX11_keepsAct_4, sX11_keepsAct_6, sX11_keepsAct_9, sX11_keepsAct_11, sX11_keepsAct_13, sX11_keepsAct_16, sX11_keepsAct_19, sX11_keepsAct_20, sX11_keepsAct_23, sX11_keepsAct_24, sX11_keepsAct_26, sX11_keepsAct_27, sX11_keepsAct_28, sX11_keepsAct_31, sX11_keepsAct_32, sX11_keepsAct_33, sX11_keepsAct_34, sX11_keepsAct_37, sX11_keepsAct_40, sX11_keepsAct_41, sX11_keepsAct_42, sX11_keepsAct_45, sX11_keepsAct_46, sX11_keepsAct_47, sX11_keepsAct_50, sX11_keepsAct_51, sX11_keepsAct_53, sX11_keepsAct_55, sX11_keepsAct_58, sX11_keepsAct_59, sX11_keepsAct_62, sX11_keepsAct_64, sX11_keepsAct_65, sX11_keepsAct_68, sX11_keepsAct_69, sX11_keepsAct_70, sX11_keepsAct_71, sX11_keepsAct_72, sX11_keepsAct_75, sX11_keepsAct_77, sX11_keepsAct_78, sX11_keepsAct_79, sX11_keepsAct_80, sX11_keepsAct_81, sX11_keepsAct_84, sX11_keepsAct_87, sX11_keepsAct_88, sX11_keepsAct_89, sX11_keepsAct_92, sX11_keepsAct_93, sX11_keepsAct_94, sX11_keepsAct_97, ↓hf103_24, ↓hp103_24, ↓if_pos, h1, i32_of]
  | succ n ih =>
    intro k A F hk h1
    obtain ⟨W, r1, r2⟩ := ih (k + 1) (aup A 114 (fup (A 114) (76 * u + k) (A 113 (10 + k)))) F (by omega) h1
    rw [aup_aup] at r1
    have tn : (76 * (u : Int) + (k : Int)).toNat = 76 * u + k := by omega
    have tn2 : (10 + (k : Int)).toNat = 10 + k := by omega
    refine ⟨W, ?_, fun j => ?_⟩
    · rw [← r1, sX11_keepsAct_52]
      simp (disch := omega) only [eX11_keepsAct, sX11_keepsAct_0, sX11_keepsAct_1, sX11_keepsAct_4, sX11_keepsAct_6, sX11_keepsAct_9, sX11_keepsAct_11, sX11_keepsAct_13, sX11_keepsAct_16, sX11_keepsAct_19, sX11_keepsAct_20, sX11_keepsAct_23, sX11_keepsAct_24, sX11_keepsAct_26, sX11_keepsAct_27, sX11_keepsAct_28, sX11_keepsAct_31, sX11_keepsAct_32, sX11_keepsAct_33, sX11_keepsAct_34, sX11_keepsAct_37, sX11_keepsAct_40, sX11_keepsAct_41, sX11_keepsAct_42, sX11_keepsAct_45, sX11_keepsAct_46, sX11_keepsAct_47, sX11_keepsAct_50, sX11_keepsAct_51, sX11_keepsAct_53, sX11_keepsAct_55, sX11_keepsAct_58, sX11_keepsAct_59, sX11_keepsAct_62, sX11_keepsAct_64, sX11_keepsAct_65, sX11_keepsAct_68, sX11_keepsAct_69, sX11_keepsAct_70, sX11_keepsAct_71, sX11_keepsAct_72, sX11_keepsAct_75, sX11_keepsAct_77, sX11_keepsAct_78, sX11_keepsAct_79, sX11_keepsAct_80, sX11_keepsAct_81, sX11_keepsAct_84, sX11_keepsAct_87, sX11_keepsAct_88, sX11_keepsAct_89, sX11_keepsAct_92, sX11_keepsAct_93, sX11_keepsAct_94, sX11_keepsAct_97, ↓hf103_23, ↓hf103_24, ↓hf103_20, ↓hg113, ↓hs114, ↓if_neg, i32_of, tn, tn2, h1, Int.toNat_natCast]
      rfl
    · rw [r2, aup_s, aup_n (by omega)]
      by_cases q : j = 76 * u + k
      · subst q; rw [if_neg (by omega), if_pos (by omega), fup_s, show 10 + (76 * u + k - 76 * u) = 10 + k by omega]
      · by_cases q2 : 76 * u + k ≤ j ∧ j < 76 * u + 76
        · rw [if_pos (by omega), if_pos q2]
        · rw [if_neg (by omega), if_neg q2, fup_n q]
theorem m_keepsAct {A F : Nat → Nat → Int} (h0 : 0 ≤ F 103 24) (h1 : F 103 24 ≤ 20) : ∃ W, cl mX11_keepsAct [vr 103] (HP A F E) = some (vn, HP (aup A 114 W) (aup F 103 (fup (F 103) 24 (if F 103 24 = 20 then 20 else F 103 24 + 1))) E) ∧ (F 103 24 = 20 → ∀ j, j < 1520 → W j = if j < 1444 then A 114 (j + 76) else A 113 (10 + (j - 1444))) ∧ (F 103 24 < 20 → ∀ j, W j = if 76 * (F 103 24).toNat ≤ j ∧ j < 76 * (F 103 24).toNat + 76 then A 113 (10 + (j - 76 * (F 103 24).toNat)) else A 114 j) := by
  by_cases z : F 103 24 = 20
  · obtain ⟨W, r1, r2⟩ := m_ka1 (E := E) 1444 76 A F (by omega) (by omega)
    obtain ⟨V, t1, t2⟩ := m_ka2 (E := E) (u := 19) (by omega) 76 0 (aup A 114 W) (aup F 103 (fup (F 103) 24 19)) (by omega) (by rw [aup_s, fup_s]; rfl)
    refine ⟨V, ?_, fun _ j hj => ?_, fun q => by omega⟩
    · rw [if_pos z]
      rw [aup_aup, aup_s, fup_fup, aup_aup] at t1
      have r1' : rn mX11_keepsAct 12 [vr 103, vi 76] [] (HP A F E) = rn mX11_keepsAct 40 [vr 103, vi 1520] [] (HP (aup A 114 W) F E) := r1
      have t1' : rn mX11_keepsAct 52 [vr 103, vi 0] [] (HP (aup A 114 W) (aup F 103 (fup (F 103) 24 19)) E) = some (vn, HP (aup A 114 V) (aup F 103 (fup (F 103) 24 20)) E) := t1
      simp (disch := omega) only [eX11_keepsAct, sX11_keepsAct_0, sX11_keepsAct_1, sX11_keepsAct_4, sX11_keepsAct_6, sX11_keepsAct_9, sX11_keepsAct_11, sX11_keepsAct_13, sX11_keepsAct_16, sX11_keepsAct_19, sX11_keepsAct_20, sX11_keepsAct_23, sX11_keepsAct_24, sX11_keepsAct_26, sX11_keepsAct_27, sX11_keepsAct_28, sX11_keepsAct_31, sX11_keepsAct_32, sX11_keepsAct_33, sX11_keepsAct_34, sX11_keepsAct_37, sX11_keepsAct_41, sX11_keepsAct_42, sX11_keepsAct_45, sX11_keepsAct_46, sX11_keepsAct_47, sX11_keepsAct_50, sX11_keepsAct_51, sX11_keepsAct_53, sX11_keepsAct_55, sX11_keepsAct_58, sX11_keepsAct_59, sX11_keepsAct_62, sX11_keepsAct_64, sX11_keepsAct_65, sX11_keepsAct_68, sX11_keepsAct_69, sX11_keepsAct_70, sX11_keepsAct_71, sX11_keepsAct_72, sX11_keepsAct_75, sX11_keepsAct_77, sX11_keepsAct_78, sX11_keepsAct_79, sX11_keepsAct_80, sX11_keepsAct_81, sX11_keepsAct_84, sX11_keepsAct_87, sX11_keepsAct_88, sX11_keepsAct_89, sX11_keepsAct_92, sX11_keepsAct_93, sX11_keepsAct_94, sX11_keepsAct_97, ↓hf103_24, z, ↓if_neg]
      rw [r1']
      simp (disch := omega) only [eX11_keepsAct, sX11_keepsAct_0, sX11_keepsAct_1, sX11_keepsAct_4, sX11_keepsAct_6, sX11_keepsAct_9, sX11_keepsAct_11, sX11_keepsAct_13, sX11_keepsAct_16, sX11_keepsAct_19, sX11_keepsAct_20, sX11_keepsAct_23, sX11_keepsAct_24, sX11_keepsAct_26, sX11_keepsAct_27, sX11_keepsAct_28, sX11_keepsAct_31, sX11_keepsAct_32, sX11_keepsAct_33, sX11_keepsAct_34, sX11_keepsAct_37, sX11_keepsAct_40, sX11_keepsAct_41, sX11_keepsAct_42, sX11_keepsAct_45, sX11_keepsAct_46, sX11_keepsAct_47, sX11_keepsAct_50, sX11_keepsAct_51, sX11_keepsAct_53, sX11_keepsAct_55, sX11_keepsAct_58, sX11_keepsAct_59, sX11_keepsAct_62, sX11_keepsAct_64, sX11_keepsAct_65, sX11_keepsAct_68, sX11_keepsAct_69, sX11_keepsAct_70, sX11_keepsAct_71, sX11_keepsAct_72, sX11_keepsAct_75, sX11_keepsAct_77, sX11_keepsAct_78, sX11_keepsAct_79, sX11_keepsAct_80, sX11_keepsAct_81, sX11_keepsAct_84, sX11_keepsAct_87, sX11_keepsAct_88, sX11_keepsAct_89, sX11_keepsAct_92, sX11_keepsAct_93, sX11_keepsAct_94, sX11_keepsAct_97, ↓hf103_24, ↓hp103_24, z, i32_of, Int.reduceSub]
      exact t1'
    · rw [t2, aup_s]
      by_cases q : j < 1444
      · rw [if_neg (by omega), if_pos q, r2, if_pos (by omega)]
      · rw [if_pos (by omega), if_neg q, aup_n (by omega)]
  · obtain ⟨u, hu⟩ : ∃ u : Nat, F 103 24 = (u : Int) := ⟨(F 103 24).toNat, by omega⟩
    obtain ⟨V, t1, t2⟩ := m_ka2 (E := E) (u := u) (by omega) 76 0 A F (by omega) hu
    refine ⟨V, ?_, fun q => absurd q z, fun _ j => ?_⟩
    · rw [if_neg z, hu]
      have t1' : rn mX11_keepsAct 52 [vr 103, vi 0] [] (HP A F E) = some (vn, HP (aup A 114 V) (aup F 103 (fup (F 103) 24 ((u : Int) + 1))) E) := t1
      rw [← t1']
      simp (disch := omega) only [eX11_keepsAct, sX11_keepsAct_0, sX11_keepsAct_1, sX11_keepsAct_4, sX11_keepsAct_6, sX11_keepsAct_9, sX11_keepsAct_11, sX11_keepsAct_13, sX11_keepsAct_16, sX11_keepsAct_19, sX11_keepsAct_20, sX11_keepsAct_23, sX11_keepsAct_24, sX11_keepsAct_26, sX11_keepsAct_27, sX11_keepsAct_28, sX11_keepsAct_31, sX11_keepsAct_32, sX11_keepsAct_33, sX11_keepsAct_34, sX11_keepsAct_37, sX11_keepsAct_40, sX11_keepsAct_41, sX11_keepsAct_42, sX11_keepsAct_45, sX11_keepsAct_46, sX11_keepsAct_47, sX11_keepsAct_50, sX11_keepsAct_51, sX11_keepsAct_53, sX11_keepsAct_55, sX11_keepsAct_58, sX11_keepsAct_59, sX11_keepsAct_62, sX11_keepsAct_64, sX11_keepsAct_65, sX11_keepsAct_68, sX11_keepsAct_69, sX11_keepsAct_70, sX11_keepsAct_71, sX11_keepsAct_72, sX11_keepsAct_75, sX11_keepsAct_77, sX11_keepsAct_78, sX11_keepsAct_79, sX11_keepsAct_80, sX11_keepsAct_81, sX11_keepsAct_84, sX11_keepsAct_87, sX11_keepsAct_88, sX11_keepsAct_89, sX11_keepsAct_92, sX11_keepsAct_93, sX11_keepsAct_94, sX11_keepsAct_97, ↓hf103_24, ↓if_pos]
    · rw [t2, hu, Int.toNat_natCast]; rfl
end KP
