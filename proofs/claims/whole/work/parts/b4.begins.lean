/-! the model begins anew; its notes -/
section BG
variable {A F : Nat → Nat → Int} {E : zE} {G Z : Nat} {Q : (Int → Int) → Int} {f s0 : Nat → Int}
theorem m_bg1 {g : Nat} (hg : g < 5) : ∀ (n w : Nat) (A F : Nat → Nat → Int), w + n = 7 → ∃ S, rn mX11_begins 17 [vr 103, vi (g : Int), vi (w : Int)] [] (HP A F E) = rn mX11_begins 65 [vr 103, vi (g : Int), vi 7] [] (HP (aup A 113 S) F E) ∧ ∀ j, S j = if 11 + 7 * g + w ≤ j ∧ j < 18 + 7 * g then (if j < 14 + 7 * g then A 113 (j - (11 + 7 * g) + (90 + 3 * g)) else 0) else A 113 j := by
  intro n
  induction n with
  | zero =>
    intro w A F hw
    have : w = 7 := by omega
    subst this
    refine ⟨A 113, ?_, fun j => by rw [if_neg (by omega)]⟩
    rw [sX11_begins_17, aup_id]
    simp (disch := omega) only [eX11_begins, sX11_begins_0, sX11_begins_1, sX11_begins_4, sX11_begins_6, sX11_begins_7, sX11_begins_8, sX11_begins_9, sX11_begins_11, sX11_begins_12, sX11_begins_15, sX11_begins_16, sX11_begins_18, sX11_begins_20, sX11_begins_23, sX11_begins_24, sX11_begins_27, sX11_begins_29, sX11_begins_31, sX11_begins_32, sX11_begins_33, sX11_begins_34, sX11_begins_35, sX11_begins_36, sX11_begins_37, sX11_begins_38, sX11_begins_41, sX11_begins_42, sX11_begins_45, sX11_begins_47, sX11_begins_48, sX11_begins_49, sX11_begins_50, sX11_begins_51, sX11_begins_52, sX11_begins_53, sX11_begins_54, sX11_begins_57, sX11_begins_58, sX11_begins_59, sX11_begins_62, sX11_begins_68, sX11_begins_71, sX11_begins_72, sX11_begins_74, sX11_begins_75, sX11_begins_78, sX11_begins_79, sX11_begins_82, sX11_begins_84, sX11_begins_85, sX11_begins_86, sX11_begins_87, sX11_begins_90, sX11_begins_92, sX11_begins_93, sX11_begins_94, sX11_begins_95, sX11_begins_96, sX11_begins_99, sX11_begins_102, sX11_begins_103, sX11_begins_105, sX11_begins_107, sX11_begins_110, sX11_begins_111, sX11_begins_114, sX11_begins_116, sX11_begins_117, sX11_begins_118, sX11_begins_119, sX11_begins_122, sX11_begins_124, sX11_begins_125, sX11_begins_126, sX11_begins_127, sX11_begins_128, sX11_begins_131, sX11_begins_134, ↓if_pos]
    rfl
  | succ n ih =>
    intro w A F hw
    have e1 : (11 + 7 * (g : Int) + (w : Int)).toNat = 11 + 7 * g + w := by omega
    have e2 : (90 + 3 * (g : Int) + (w : Int)).toNat = 90 + 3 * g + w := by omega
    obtain ⟨S, r1, r2⟩ := ih (w + 1) (aup A 113 (fup (A 113) (11 + 7 * g + w) (if w < 3 then A 113 (90 + 3 * g + w) else 0))) F (by omega)
    rw [aup_aup] at r1
    refine ⟨S, ?_, fun j => ?_⟩
    · rw [← r1, sX11_begins_17]
      by_cases z : w < 3
      · rw [if_pos z]
        simp (disch := omega) only [eX11_begins, sX11_begins_0, sX11_begins_1, sX11_begins_4, sX11_begins_6, sX11_begins_7, sX11_begins_8, sX11_begins_9, sX11_begins_11, sX11_begins_12, sX11_begins_15, sX11_begins_16, sX11_begins_18, sX11_begins_20, sX11_begins_23, sX11_begins_24, sX11_begins_27, sX11_begins_29, sX11_begins_31, sX11_begins_32, sX11_begins_33, sX11_begins_34, sX11_begins_35, sX11_begins_36, sX11_begins_37, sX11_begins_38, sX11_begins_41, sX11_begins_42, sX11_begins_45, sX11_begins_47, sX11_begins_48, sX11_begins_49, sX11_begins_50, sX11_begins_51, sX11_begins_52, sX11_begins_53, sX11_begins_54, sX11_begins_57, sX11_begins_58, sX11_begins_59, sX11_begins_62, sX11_begins_68, sX11_begins_71, sX11_begins_72, sX11_begins_74, sX11_begins_75, sX11_begins_78, sX11_begins_79, sX11_begins_82, sX11_begins_84, sX11_begins_85, sX11_begins_86, sX11_begins_87, sX11_begins_90, sX11_begins_92, sX11_begins_93, sX11_begins_94, sX11_begins_95, sX11_begins_96, sX11_begins_99, sX11_begins_102, sX11_begins_103, sX11_begins_105, sX11_begins_107, sX11_begins_110, sX11_begins_111, sX11_begins_114, sX11_begins_116, sX11_begins_117, sX11_begins_118, sX11_begins_119, sX11_begins_122, sX11_begins_124, sX11_begins_125, sX11_begins_126, sX11_begins_127, sX11_begins_128, sX11_begins_131, sX11_begins_134, ↓hf103_20, ↓hg113, ↓hs113, i32_of, e1, e2, ↓if_pos, ↓if_neg]
        rfl
      · rw [if_neg z]
        simp (disch := omega) only [eX11_begins, sX11_begins_0, sX11_begins_1, sX11_begins_4, sX11_begins_6, sX11_begins_7, sX11_begins_8, sX11_begins_9, sX11_begins_11, sX11_begins_12, sX11_begins_15, sX11_begins_16, sX11_begins_18, sX11_begins_20, sX11_begins_23, sX11_begins_24, sX11_begins_27, sX11_begins_29, sX11_begins_31, sX11_begins_32, sX11_begins_33, sX11_begins_34, sX11_begins_35, sX11_begins_36, sX11_begins_37, sX11_begins_38, sX11_begins_41, sX11_begins_42, sX11_begins_45, sX11_begins_47, sX11_begins_48, sX11_begins_49, sX11_begins_50, sX11_begins_51, sX11_begins_52, sX11_begins_53, sX11_begins_54, sX11_begins_57, sX11_begins_58, sX11_begins_59, sX11_begins_62, sX11_begins_68, sX11_begins_71, sX11_begins_72, sX11_begins_74, sX11_begins_75, sX11_begins_78, sX11_begins_79, sX11_begins_82, sX11_begins_84, sX11_begins_85, sX11_begins_86, sX11_begins_87, sX11_begins_90, sX11_begins_92, sX11_begins_93, sX11_begins_94, sX11_begins_95, sX11_begins_96, sX11_begins_99, sX11_begins_102, sX11_begins_103, sX11_begins_105, sX11_begins_107, sX11_begins_110, sX11_begins_111, sX11_begins_114, sX11_begins_116, sX11_begins_117, sX11_begins_118, sX11_begins_119, sX11_begins_122, sX11_begins_124, sX11_begins_125, sX11_begins_126, sX11_begins_127, sX11_begins_128, sX11_begins_131, sX11_begins_134, ↓hf103_20, ↓hg113, ↓hs113, i32_of, e1, e2, ↓if_pos, ↓if_neg]
        rfl
    · rw [r2, aup_s]
      by_cases q : j = 11 + 7 * g + w
      · subst q
        rw [if_neg (show ¬ (11 + 7 * g + (w + 1) ≤ 11 + 7 * g + w ∧ 11 + 7 * g + w < 18 + 7 * g) by omega), if_pos (show 11 + 7 * g + w ≤ 11 + 7 * g + w ∧ 11 + 7 * g + w < 18 + 7 * g by omega), fup_s]
        by_cases z : w < 3
        · rw [if_pos z, if_pos (by omega), show 11 + 7 * g + w - (11 + 7 * g) + (90 + 3 * g) = 90 + 3 * g + w by omega]
        · rw [if_neg z, if_neg (by omega)]
      · by_cases q2 : 11 + 7 * g + w ≤ j ∧ j < 18 + 7 * g
        · rw [if_pos (show 11 + 7 * g + (w + 1) ≤ j ∧ j < 18 + 7 * g by omega), if_pos q2]
          by_cases z : j < 14 + 7 * g
          · rw [if_pos z, if_pos z, fup_n (by omega)]
          · rw [if_neg z, if_neg z]
        · rw [if_neg (show ¬ (11 + 7 * g + (w + 1) ≤ j ∧ j < 18 + 7 * g) by omega), if_neg q2, fup_n q]
theorem m_bg2 : ∀ (n g : Nat) (A F : Nat → Nat → Int) (x2 : zV), g + n = 5 → ∃ S x2', rn mX11_begins 10 [vr 103, vi (g : Int), x2] [] (HP A F E) = rn mX11_begins 71 [vr 103, vi 5, x2'] [] (HP (aup A 113 S) F E) ∧ (∀ i w, g ≤ i → i < 5 → w < 7 → S (11 + 7 * i + w) = if w < 3 then A 113 (90 + 3 * i + w) else 0) ∧ ∀ j, (j < 11 + 7 * g ∨ 46 ≤ j) → S j = A 113 j := by
  intro n
  induction n with
  | zero =>
    intro g A F x2 hg
    have : g = 5 := by omega
    subst this
    refine ⟨A 113, x2, ?_, fun i w h1 h2 => by omega, fun _ _ => rfl⟩
    rw [sX11_begins_10, aup_id]
    simp (disch := omega) only [eX11_begins, sX11_begins_0, sX11_begins_1, sX11_begins_4, sX11_begins_6, sX11_begins_7, sX11_begins_8, sX11_begins_9, sX11_begins_11, sX11_begins_12, sX11_begins_15, sX11_begins_16, sX11_begins_18, sX11_begins_20, sX11_begins_23, sX11_begins_24, sX11_begins_27, sX11_begins_29, sX11_begins_31, sX11_begins_32, sX11_begins_33, sX11_begins_34, sX11_begins_35, sX11_begins_36, sX11_begins_37, sX11_begins_38, sX11_begins_41, sX11_begins_42, sX11_begins_45, sX11_begins_47, sX11_begins_48, sX11_begins_49, sX11_begins_50, sX11_begins_51, sX11_begins_52, sX11_begins_53, sX11_begins_54, sX11_begins_57, sX11_begins_58, sX11_begins_59, sX11_begins_62, sX11_begins_65, sX11_begins_68, sX11_begins_72, sX11_begins_74, sX11_begins_75, sX11_begins_78, sX11_begins_79, sX11_begins_82, sX11_begins_84, sX11_begins_85, sX11_begins_86, sX11_begins_87, sX11_begins_90, sX11_begins_92, sX11_begins_93, sX11_begins_94, sX11_begins_95, sX11_begins_96, sX11_begins_99, sX11_begins_102, sX11_begins_103, sX11_begins_105, sX11_begins_107, sX11_begins_110, sX11_begins_111, sX11_begins_114, sX11_begins_116, sX11_begins_117, sX11_begins_118, sX11_begins_119, sX11_begins_122, sX11_begins_124, sX11_begins_125, sX11_begins_126, sX11_begins_127, sX11_begins_128, sX11_begins_131, sX11_begins_134, ↓if_pos]
    rfl
  | succ n ih =>
    intro g A F x2 hg
    obtain ⟨S, r1, r2⟩ := m_bg1 (g := g) (E := E) (by omega) 7 0 A F (by omega)
    have r1' : rn mX11_begins 17 [vr 103, vi (g : Int), vi 0] [] (HP A F E) = _ := r1
    obtain ⟨T, x2', t1, t2, t3⟩ := ih (g + 1) (aup A 113 S) F (vi 7) (by omega)
    rw [aup_aup] at t1
    refine ⟨T, x2', ?_, fun i w i1 i2 i3 => ?_, fun j hj => ?_⟩
    · rw [← t1, sX11_begins_10]
      simp (disch := omega) only [eX11_begins, sX11_begins_0, sX11_begins_1, sX11_begins_4, sX11_begins_6, sX11_begins_7, sX11_begins_8, sX11_begins_9, sX11_begins_11, sX11_begins_12, sX11_begins_15, sX11_begins_16, sX11_begins_18, sX11_begins_20, sX11_begins_23, sX11_begins_24, sX11_begins_27, sX11_begins_29, sX11_begins_31, sX11_begins_32, sX11_begins_33, sX11_begins_34, sX11_begins_35, sX11_begins_36, sX11_begins_37, sX11_begins_38, sX11_begins_41, sX11_begins_42, sX11_begins_45, sX11_begins_47, sX11_begins_48, sX11_begins_49, sX11_begins_50, sX11_begins_51, sX11_begins_52, sX11_begins_53, sX11_begins_54, sX11_begins_57, sX11_begins_58, sX11_begins_59, sX11_begins_62, sX11_begins_68, sX11_begins_72, sX11_begins_74, sX11_begins_75, sX11_begins_78, sX11_begins_79, sX11_begins_82, sX11_begins_84, sX11_begins_85, sX11_begins_86, sX11_begins_87, sX11_begins_90, sX11_begins_92, sX11_begins_93, sX11_begins_94, sX11_begins_95, sX11_begins_96, sX11_begins_99, sX11_begins_102, sX11_begins_103, sX11_begins_105, sX11_begins_107, sX11_begins_110, sX11_begins_111, sX11_begins_114, sX11_begins_116, sX11_begins_117, sX11_begins_118, sX11_begins_119, sX11_begins_122, sX11_begins_124, sX11_begins_125, sX11_begins_126, sX11_begins_127, sX11_begins_128, sX11_begins_131, sX11_begins_134, ↓if_neg]
      rw [r1']
      simp (disch := omega) only [eX11_begins, sX11_begins_0, sX11_begins_1, sX11_begins_4, sX11_begins_6, sX11_begins_7, sX11_begins_8, sX11_begins_9, sX11_begins_11, sX11_begins_12, sX11_begins_15, sX11_begins_16, sX11_begins_18, sX11_begins_20, sX11_begins_23, sX11_begins_24, sX11_begins_27, sX11_begins_29, sX11_begins_31, sX11_begins_32, sX11_begins_33, sX11_begins_34, sX11_begins_35, sX11_begins_36, sX11_begins_37, sX11_begins_38, sX11_begins_41, sX11_begins_42, sX11_begins_45, sX11_begins_47, sX11_begins_48, sX11_begins_49, sX11_begins_50, sX11_begins_51, sX11_begins_52, sX11_begins_53, sX11_begins_54, sX11_begins_57, sX11_begins_58, sX11_begins_59, sX11_begins_62, sX11_begins_65, sX11_begins_68, sX11_begins_72, sX11_begins_74, sX11_begins_75, sX11_begins_78, sX11_begins_79, sX11_begins_82, sX11_begins_84, sX11_begins_85, sX11_begins_86, sX11_begins_87, sX11_begins_90, sX11_begins_92, sX11_begins_93, sX11_begins_94, sX11_begins_95, sX11_begins_96, sX11_begins_99, sX11_begins_102, sX11_begins_103, sX11_begins_105, sX11_begins_107, sX11_begins_110, sX11_begins_111, sX11_begins_114, sX11_begins_116, sX11_begins_117, sX11_begins_118, sX11_begins_119, sX11_begins_122, sX11_begins_124, sX11_begins_125, sX11_begins_126, sX11_begins_127, sX11_begins_128, sX11_begins_131, sX11_begins_134, i32_s]
    · by_cases q : i = g
      · subst q
        rw [t3 _ (by omega), aup_s, r2, if_pos (show 11 + 7 * i + 0 ≤ 11 + 7 * i + w ∧ 11 + 7 * i + w < 18 + 7 * i by omega)]
        by_cases z : w < 3
        · rw [if_pos z, if_pos (by omega), show 11 + 7 * i + w - (11 + 7 * i) + (90 + 3 * i) = 90 + 3 * i + w by omega]
        · rw [if_neg z, if_neg (by omega)]
      · rw [t2 i w (by omega) i2 i3, aup_s]
        by_cases z : w < 3
        · rw [if_pos z, if_pos z, r2, if_neg (by omega)]
        · rw [if_neg z, if_neg z]
    · rw [t3 j (by omega), aup_s, r2, if_neg (by omega)]
theorem m_bg3 {x2 : zV} : ∀ (n e : Nat) (A F : Nat → Nat → Int), e + n = 4 → ∃ S, rn mX11_begins 73 [vr 103, vi (e : Int), x2] [] (HP A F E) = rn mX11_begins 102 [vr 103, vi 4, x2] [] (HP (aup A 113 S) F E) ∧ ∀ j, S j = if 46 + e ≤ j ∧ j < 50 then A 113 (j + 59) else A 113 j := by
  intro n
  induction n with
  | zero =>
    intro e A F he
    have : e = 4 := by omega
    subst this
    refine ⟨A 113, ?_, fun j => by rw [if_neg (by omega)]⟩
    rw [sX11_begins_73, aup_id]
    simp (disch := omega) only [eX11_begins, sX11_begins_0, sX11_begins_1, sX11_begins_4, sX11_begins_6, sX11_begins_7, sX11_begins_8, sX11_begins_9, sX11_begins_11, sX11_begins_12, sX11_begins_15, sX11_begins_16, sX11_begins_18, sX11_begins_20, sX11_begins_23, sX11_begins_24, sX11_begins_27, sX11_begins_29, sX11_begins_31, sX11_begins_32, sX11_begins_33, sX11_begins_34, sX11_begins_35, sX11_begins_36, sX11_begins_37, sX11_begins_38, sX11_begins_41, sX11_begins_42, sX11_begins_45, sX11_begins_47, sX11_begins_48, sX11_begins_49, sX11_begins_50, sX11_begins_51, sX11_begins_52, sX11_begins_53, sX11_begins_54, sX11_begins_57, sX11_begins_58, sX11_begins_59, sX11_begins_62, sX11_begins_65, sX11_begins_68, sX11_begins_71, sX11_begins_72, sX11_begins_74, sX11_begins_75, sX11_begins_78, sX11_begins_79, sX11_begins_82, sX11_begins_84, sX11_begins_85, sX11_begins_86, sX11_begins_87, sX11_begins_90, sX11_begins_92, sX11_begins_93, sX11_begins_94, sX11_begins_95, sX11_begins_96, sX11_begins_99, sX11_begins_103, sX11_begins_105, sX11_begins_107, sX11_begins_110, sX11_begins_111, sX11_begins_114, sX11_begins_116, sX11_begins_117, sX11_begins_118, sX11_begins_119, sX11_begins_122, sX11_begins_124, sX11_begins_125, sX11_begins_126, sX11_begins_127, sX11_begins_128, sX11_begins_131, sX11_begins_134, ↓if_pos]
    rfl
  | succ n ih =>
    intro e A F he
    have e1 : (46 + (e : Int)).toNat = 46 + e := by omega
    have e2 : (105 + (e : Int)).toNat = 105 + e := by omega
    obtain ⟨S, r1, r2⟩ := ih (e + 1) (aup A 113 (fup (A 113) (46 + e) (A 113 (105 + e)))) F (by omega)
    rw [aup_aup] at r1
    refine ⟨S, ?_, fun j => ?_⟩
    · rw [← r1, sX11_begins_73]
      simp (disch := omega) only [eX11_begins, sX11_begins_0, sX11_begins_1, sX11_begins_4, sX11_begins_6, sX11_begins_7, sX11_begins_8, sX11_begins_9, sX11_begins_11, sX11_begins_12, sX11_begins_15, sX11_begins_16, sX11_begins_18, sX11_begins_20, sX11_begins_23, sX11_begins_24, sX11_begins_27, sX11_begins_29, sX11_begins_31, sX11_begins_32, sX11_begins_33, sX11_begins_34, sX11_begins_35, sX11_begins_36, sX11_begins_37, sX11_begins_38, sX11_begins_41, sX11_begins_42, sX11_begins_45, sX11_begins_47, sX11_begins_48, sX11_begins_49, sX11_begins_50, sX11_begins_51, sX11_begins_52, sX11_begins_53, sX11_begins_54, sX11_begins_57, sX11_begins_58, sX11_begins_59, sX11_begins_62, sX11_begins_65, sX11_begins_68, sX11_begins_71, sX11_begins_72, sX11_begins_74, sX11_begins_75, sX11_begins_78, sX11_begins_79, sX11_begins_82, sX11_begins_84, sX11_begins_85, sX11_begins_86, sX11_begins_87, sX11_begins_90, sX11_begins_92, sX11_begins_93, sX11_begins_94, sX11_begins_95, sX11_begins_96, sX11_begins_99, sX11_begins_103, sX11_begins_105, sX11_begins_107, sX11_begins_110, sX11_begins_111, sX11_begins_114, sX11_begins_116, sX11_begins_117, sX11_begins_118, sX11_begins_119, sX11_begins_122, sX11_begins_124, sX11_begins_125, sX11_begins_126, sX11_begins_127, sX11_begins_128, sX11_begins_131, sX11_begins_134, ↓hf103_20, ↓hg113, ↓hs113, i32_of, e1, e2, ↓if_neg]
      rfl
    · rw [r2, aup_s]
      by_cases q : j = 46 + e
      · subst q; rw [if_neg (by omega), if_pos (by omega), fup_s, show 46 + e + 59 = 105 + e by omega]
      · by_cases q2 : 46 + e ≤ j ∧ j < 50
        · rw [if_pos (by omega), if_pos q2, fup_n (by omega)]
        · rw [if_neg (by omega), if_neg q2, fup_n q]
theorem m_bg4 {x2 : zV} : ∀ (n e : Nat) (A F : Nat → Nat → Int), e + n = 36 → ∃ S, rn mX11_begins 104 [vr 103, vi (e : Int), x2] [] (HP A F E) = some (vn, HP (aup A 113 S) F E) ∧ ∀ j, S j = if 50 + e ≤ j ∧ j < 86 then A 113 (j + 59) else A 113 j := by
  intro n
  induction n with
  | zero =>
    intro e A F he
    have : e = 36 := by omega
    subst this
    refine ⟨A 113, ?_, fun j => by rw [if_neg (by omega)]⟩
    rw [sX11_begins_104, aup_id]
    simp (disch := omega) only [eX11_begins, sX11_begins_0, sX11_begins_1, sX11_begins_4, sX11_begins_6, sX11_begins_7, sX11_begins_8, sX11_begins_9, sX11_begins_11, sX11_begins_12, sX11_begins_15, sX11_begins_16, sX11_begins_18, sX11_begins_20, sX11_begins_23, sX11_begins_24, sX11_begins_27, sX11_begins_29, sX11_begins_31, sX11_begins_32, sX11_begins_33, sX11_begins_34, sX11_begins_35, sX11_begins_36, sX11_begins_37, sX11_begins_38, sX11_begins_41, sX11_begins_42, sX11_begins_45, sX11_begins_47, sX11_begins_48, sX11_begins_49, sX11_begins_50, sX11_begins_51, sX11_begins_52, sX11_begins_53, sX11_begins_54, sX11_begins_57, sX11_begins_58, sX11_begins_59, sX11_begins_62, sX11_begins_65, sX11_begins_68, sX11_begins_71, sX11_begins_72, sX11_begins_74, sX11_begins_75, sX11_begins_78, sX11_begins_79, sX11_begins_82, sX11_begins_84, sX11_begins_85, sX11_begins_86, sX11_begins_87, sX11_begins_90, sX11_begins_92, sX11_begins_93, sX11_begins_94, sX11_begins_95, sX11_begins_96, sX11_begins_99, sX11_begins_102, sX11_begins_103, sX11_begins_105, sX11_begins_107, sX11_begins_110, sX11_begins_111, sX11_begins_114, sX11_begins_116, sX11_begins_117, sX11_begins_118, sX11_begins_119, sX11_begins_122, sX11_begins_124, sX11_begins_125, sX11_begins_126, sX11_begins_127, sX11_begins_128, sX11_begins_131, sX11_begins_134, ↓if_pos]
  | succ n ih =>
    intro e A F he
    have e1 : (50 + (e : Int)).toNat = 50 + e := by omega
    have e2 : (109 + (e : Int)).toNat = 109 + e := by omega
    obtain ⟨S, r1, r2⟩ := ih (e + 1) (aup A 113 (fup (A 113) (50 + e) (A 113 (109 + e)))) F (by omega)
    rw [aup_aup] at r1
    refine ⟨S, ?_, fun j => ?_⟩
    · rw [← r1, sX11_begins_104]
      simp (disch := omega) only [eX11_begins, sX11_begins_0, sX11_begins_1, sX11_begins_4, sX11_begins_6, sX11_begins_7, sX11_begins_8, sX11_begins_9, sX11_begins_11, sX11_begins_12, sX11_begins_15, sX11_begins_16, sX11_begins_18, sX11_begins_20, sX11_begins_23, sX11_begins_24, sX11_begins_27, sX11_begins_29, sX11_begins_31, sX11_begins_32, sX11_begins_33, sX11_begins_34, sX11_begins_35, sX11_begins_36, sX11_begins_37, sX11_begins_38, sX11_begins_41, sX11_begins_42, sX11_begins_45, sX11_begins_47, sX11_begins_48, sX11_begins_49, sX11_begins_50, sX11_begins_51, sX11_begins_52, sX11_begins_53, sX11_begins_54, sX11_begins_57, sX11_begins_58, sX11_begins_59, sX11_begins_62, sX11_begins_65, sX11_begins_68, sX11_begins_71, sX11_begins_72, sX11_begins_74, sX11_begins_75, sX11_begins_78, sX11_begins_79, sX11_begins_82, sX11_begins_84, sX11_begins_85, sX11_begins_86, sX11_begins_87, sX11_begins_90, sX11_begins_92, sX11_begins_93, sX11_begins_94, sX11_begins_95, sX11_begins_96, sX11_begins_99, sX11_begins_102, sX11_begins_103, sX11_begins_105, sX11_begins_107, sX11_begins_110, sX11_begins_111, sX11_begins_114, sX11_begins_116, sX11_begins_117, sX11_begins_118, sX11_begins_119, sX11_begins_122, sX11_begins_124, sX11_begins_125, sX11_begins_126, sX11_begins_127, sX11_begins_128, sX11_begins_131, sX11_begins_134, ↓hf103_20, ↓hg113, ↓hs113, i32_of, e1, e2, ↓if_neg]
      rfl
    · rw [r2, aup_s]
      by_cases q : j = 50 + e
      · subst q; rw [if_neg (by omega), if_pos (by omega), fup_s, show 50 + e + 59 = 109 + e by omega]
      · by_cases q2 : 50 + e ≤ j ∧ j < 86
        · rw [if_pos (by omega), if_pos q2, fup_n (by omega)]
        · rw [if_neg (by omega), if_neg q2, fup_n q]
theorem m_begins {A F : Nat → Nat → Int} : ∃ S, cl mX11_begins [vr 103] (HP A F E) = some (vn, HP (aup A 113 S) F E) ∧ (∀ j, (j < 10 ∨ 86 ≤ j) → S j = A 113 j) ∧ S 10 = 0 ∧ (∀ i w, i < 5 → w < 7 → S (11 + 7 * i + w) = if w < 3 then A 113 (90 + 3 * i + w) else 0) ∧ (∀ e, e < 4 → S (46 + e) = A 113 (105 + e)) ∧ ∀ c, c < 36 → S (50 + c) = A 113 (109 + c) := by
  obtain ⟨S1, x2', a1, a2, a3⟩ := m_bg2 (E := E) 5 0 (aup A 113 (fup (A 113) 10 0)) F vn (by omega)
  rw [aup_aup] at a1
  have a1' : rn mX11_begins 10 [vr 103, vi 0, vn] [] (HP (aup A 113 (fup (A 113) 10 0)) F E) = _ := a1
  obtain ⟨S2, b1, b2⟩ := m_bg3 (E := E) (x2 := x2') 4 0 (aup A 113 S1) F (by omega)
  rw [aup_aup] at b1
  have b1' : rn mX11_begins 73 [vr 103, vi 0, x2'] [] (HP (aup A 113 S1) F E) = _ := b1
  obtain ⟨S3, c1, c2⟩ := m_bg4 (E := E) (x2 := x2') 36 0 (aup A 113 S2) F (by omega)
  rw [aup_aup] at c1
  have c1' : rn mX11_begins 104 [vr 103, vi 0, x2'] [] (HP (aup A 113 S2) F E) = _ := c1
  have hi : ∀ j, 86 ≤ j → S2 j = A 113 j := fun j hj => by rw [b2, if_neg (by omega), aup_s, a3 j (by omega), aup_s, fup_n (by omega)]
  refine ⟨S3, ?_, fun j hj => ?_, ?_, fun i w i1 i2 => ?_, fun e he => ?_, fun c hc => ?_⟩
  · simp (disch := omega) only [eX11_begins, sX11_begins_0, sX11_begins_1, sX11_begins_4, sX11_begins_6, sX11_begins_7, sX11_begins_8, sX11_begins_9, sX11_begins_11, sX11_begins_12, sX11_begins_15, sX11_begins_16, sX11_begins_18, sX11_begins_20, sX11_begins_23, sX11_begins_24, sX11_begins_27, sX11_begins_29, sX11_begins_31, sX11_begins_32, sX11_begins_33, sX11_begins_34, sX11_begins_35, sX11_begins_36, sX11_begins_37, sX11_begins_38, sX11_begins_41, sX11_begins_42, sX11_begins_45, sX11_begins_47, sX11_begins_48, sX11_begins_49, sX11_begins_50, sX11_begins_51, sX11_begins_52, sX11_begins_53, sX11_begins_54, sX11_begins_57, sX11_begins_58, sX11_begins_59, sX11_begins_62, sX11_begins_65, sX11_begins_68, sX11_begins_72, sX11_begins_74, sX11_begins_75, sX11_begins_78, sX11_begins_79, sX11_begins_82, sX11_begins_84, sX11_begins_85, sX11_begins_86, sX11_begins_87, sX11_begins_90, sX11_begins_92, sX11_begins_93, sX11_begins_94, sX11_begins_95, sX11_begins_96, sX11_begins_99, sX11_begins_102, sX11_begins_103, sX11_begins_105, sX11_begins_107, sX11_begins_110, sX11_begins_111, sX11_begins_114, sX11_begins_116, sX11_begins_117, sX11_begins_118, sX11_begins_119, sX11_begins_122, sX11_begins_124, sX11_begins_125, sX11_begins_126, sX11_begins_127, sX11_begins_128, sX11_begins_131, sX11_begins_134, ↓hf103_20, ↓hs113, Int.reduceToNat]
    rw [a1']
    simp (disch := omega) only [eX11_begins, sX11_begins_0, sX11_begins_1, sX11_begins_4, sX11_begins_6, sX11_begins_7, sX11_begins_8, sX11_begins_9, sX11_begins_11, sX11_begins_12, sX11_begins_15, sX11_begins_16, sX11_begins_18, sX11_begins_20, sX11_begins_23, sX11_begins_24, sX11_begins_27, sX11_begins_29, sX11_begins_31, sX11_begins_32, sX11_begins_33, sX11_begins_34, sX11_begins_35, sX11_begins_36, sX11_begins_37, sX11_begins_38, sX11_begins_41, sX11_begins_42, sX11_begins_45, sX11_begins_47, sX11_begins_48, sX11_begins_49, sX11_begins_50, sX11_begins_51, sX11_begins_52, sX11_begins_53, sX11_begins_54, sX11_begins_57, sX11_begins_58, sX11_begins_59, sX11_begins_62, sX11_begins_65, sX11_begins_68, sX11_begins_71, sX11_begins_72, sX11_begins_74, sX11_begins_75, sX11_begins_78, sX11_begins_79, sX11_begins_82, sX11_begins_84, sX11_begins_85, sX11_begins_86, sX11_begins_87, sX11_begins_90, sX11_begins_92, sX11_begins_93, sX11_begins_94, sX11_begins_95, sX11_begins_96, sX11_begins_99, sX11_begins_103, sX11_begins_105, sX11_begins_107, sX11_begins_110, sX11_begins_111, sX11_begins_114, sX11_begins_116, sX11_begins_117, sX11_begins_118, sX11_begins_119, sX11_begins_122, sX11_begins_124, sX11_begins_125, sX11_begins_126, sX11_begins_127, sX11_begins_128, sX11_begins_131, sX11_begins_134]
    rw [b1']
    simp (disch := omega) only [eX11_begins, sX11_begins_0, sX11_begins_1, sX11_begins_4, sX11_begins_6, sX11_begins_7, sX11_begins_8, sX11_begins_9, sX11_begins_11, sX11_begins_12, sX11_begins_15, sX11_begins_16, sX11_begins_18, sX11_begins_20, sX11_begins_23, sX11_begins_24, sX11_begins_27, sX11_begins_29, sX11_begins_31, sX11_begins_32, sX11_begins_33, sX11_begins_34, sX11_begins_35, sX11_begins_36, sX11_begins_37, sX11_begins_38, sX11_begins_41, sX11_begins_42, sX11_begins_45, sX11_begins_47, sX11_begins_48, sX11_begins_49, sX11_begins_50, sX11_begins_51, sX11_begins_52, sX11_begins_53, sX11_begins_54, sX11_begins_57, sX11_begins_58, sX11_begins_59, sX11_begins_62, sX11_begins_65, sX11_begins_68, sX11_begins_71, sX11_begins_72, sX11_begins_74, sX11_begins_75, sX11_begins_78, sX11_begins_79, sX11_begins_82, sX11_begins_84, sX11_begins_85, sX11_begins_86, sX11_begins_87, sX11_begins_90, sX11_begins_92, sX11_begins_93, sX11_begins_94, sX11_begins_95, sX11_begins_96, sX11_begins_99, sX11_begins_102, sX11_begins_103, sX11_begins_105, sX11_begins_107, sX11_begins_110, sX11_begins_111, sX11_begins_114, sX11_begins_116, sX11_begins_117, sX11_begins_118, sX11_begins_119, sX11_begins_122, sX11_begins_124, sX11_begins_125, sX11_begins_126, sX11_begins_127, sX11_begins_128, sX11_begins_131, sX11_begins_134]
    exact c1'
  · rw [c2, if_neg (by omega), aup_s, b2, if_neg (by omega), aup_s, a3 j (by omega), aup_s, fup_n (by omega)]
  · rw [c2, if_neg (by omega), aup_s, b2, if_neg (by omega), aup_s, a3 10 (by omega), aup_s, fup_s]
  · rw [c2, if_neg (by omega), aup_s, b2, if_neg (by omega), aup_s, a2 i w (by omega) i1 i2, aup_s]
    by_cases z : w < 3
    · rw [if_pos z, if_pos z, fup_n (by omega)]
    · rw [if_neg z, if_neg z]
  · rw [c2, if_neg (by omega), aup_s, b2, if_pos (by omega), aup_s, a3 _ (by omega), aup_s, fup_n (by omega), show 46 + e + 59 = 105 + e by omega]
  · rw [c2, if_pos (by omega), aup_s, hi _ (by omega), show 50 + c + 59 = 109 + c by omega]
/-- begun anew, the model stands as the text told -/
theorem mw_begins {t : Nat → Int} (h : mw A F G Q f s0) (ht : wok t G) (td : tdr s0 t) (s1 : s0 1 = t 0) (s2 : s0 2 = t 1) (sd : ∀ e, e < 4 → s0 (86 + e) = t (7 + e)) : ∃ S, cl mX11_begins [vr 103] (HP A F E) = some (vn, HP (aup A 113 S) F E) ∧ mw (aup A 113 S) F G Q t s0 := by
  obtain ⟨S, e1, e2, e3, e4, e5, e6⟩ := m_begins (E := E) (A := A) (F := F)
  have o : ∀ j, 86 ≤ j → A 113 j = s0 j := fun j hj => h.2.2.2.2 j (by omega)
  refine ⟨S, e1, mw_set h ht ⟨?_, ?_, fun e he => ?_, ?_, fun e he => ?_, fun c hc => ?_, fun g hg => ?_⟩ e2⟩
  · rw [e2 1 (by omega), h.2.2.2.2 1 (by omega)]; exact s1
  · rw [e2 2 (by omega), h.2.2.2.2 2 (by omega)]; exact s2
  · rw [e2 _ (by omega), o _ (by omega)]; exact sd e he
  · show S (10 + 0) = _
    rw [e3, td.1]
  · show S (10 + (36 + e)) = _
    rw [show 10 + (36 + e) = 46 + e by omega, e5 e he, o _ (by omega)]; exact td.2.1 e he
  · show S (10 + (40 + c)) = _
    rw [show 10 + (40 + c) = 50 + c by omega, e6 c hc, o _ (by omega)]; exact td.2.2.1 c hc
  · have tg := td.2.2.2 g hg
    have k0 := e4 g 0 hg (by omega)
    have k1 := e4 g 1 hg (by omega)
    have k2 := e4 g 2 hg (by omega)
    have k3 := e4 g 3 hg (by omega)
    have k6 := e4 g 6 hg (by omega)
    simp only [Nat.add_zero, Nat.reduceLT, if_true, if_false, Nat.lt_irrefl] at k0 k1 k2 k3 k6
    rw [o _ (by omega)] at k0 k1 k2
    unfold sdg
    simp only [← Nat.add_assoc, Nat.reduceAdd]
    rw [show 12 + 7 * g = 11 + 7 * g + 1 by omega, show 13 + 7 * g = 11 + 7 * g + 2 by omega, show 14 + 7 * g = 11 + 7 * g + 3 by omega, show 17 + 7 * g = 11 + 7 * g + 6 by omega, k0, k1, k2, k3, k6, tg.2.2.2.1, tg.2.2.2.2.2.1]
    rw [show 90 + 3 * g + 1 = 91 + 3 * g by omega, show 90 + 3 * g + 2 = 92 + 3 * g by omega]
    exact ⟨tg.2.1, tg.2.2.1, rfl, fun q => by omega, rfl, fun _ => tg.1⟩
end BG
