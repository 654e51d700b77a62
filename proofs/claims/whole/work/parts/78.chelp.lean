/-! the class's own small methods in the whole heap -/
/-- a rule's address by its number *)-/
def rad (k : Int) : Nat := if k < 0 then 0 else 127 + 3 * k.toNat
section CH
variable {A F : Nat → Nat → Int} {E : zE} {α : Type} {z : Int} {Kr : Nat → Option α}
theorem hg9 (h0 : 0 ≤ z) (h1 : z < E.2.1) (h6 : E.2.1 ≤ 6) : gea ((HP A F E).2 9) z Kr = Kr (127 + 3 * z.toNat) := by
  have c : (HP A F E).2 9 = .inr (5, 6, hRu E) := rfl
  rw [gea_at c (Or.inr (Or.inl rfl)) (by omega) (by omega)]
  have : hRu E z.toNat = 127 + 3 * (z.toNat : Int) := if_pos (by omega)
  rw [this, show (127 + 3 * (z.toNat : Int)).toNat = 127 + 3 * z.toNat by omega]
theorem hg21 (h0 : 0 ≤ z) (h1 : z < 20) : gea ((HP A F E).2 21) z Kr = Kr (22 + 2 * z.toNat) := by
  have c : (HP A F E).2 21 = .inr (6, 20, hWo) := rfl
  rw [gea_at c (Or.inr (Or.inr rfl)) (by omega) (by omega)]
  have : hWo z.toNat = 22 + 2 * (z.toNat : Int) := if_pos (by omega)
  rw [this, show (22 + 2 * (z.toNat : Int)).toNat = 22 + 2 * z.toNat by omega]
theorem hg62 (h0 : 0 ≤ z) (h1 : z < 4) : gea ((HP A F E).2 62) z Kr = Kr (67 + 9 * z.toNat) := by
  have c : (HP A F E).2 62 = .inr (4, 4, hIm) := rfl
  rw [gea_at c (Or.inl rfl) (by omega) (by omega)]
  have : hIm z.toNat = 67 + 9 * (z.toNat : Int) := if_pos (by omega)
  rw [this, show (67 + 9 * (z.toNat : Int)).toNat = 67 + 9 * z.toNat by omega]
theorem E_hasSheet : cl mX10_hasSheet [vr 1] (HP A F E) = some (vi (if 0 < A 13 0 then 1 else 0), HP A F E) := by
  have g := h_get (A := A) (F := F) (E := E) (i := 0) wad_12 (by omega) (by omega)
  by_cases z : 0 < A 13 0
  · have z' : ¬ A (12 + 1) (Int.toNat 0) ≤ 0 := by show ¬ A 13 0 ≤ 0; omega
    simp (disch := omega) only [eX10_hasSheet, sX10_hasSheet_0, sX10_hasSheet_1, sX10_hasSheet_4, sX10_hasSheet_5, sX10_hasSheet_8, sX10_hasSheet_11, sX10_hasSheet_12, sX10_hasSheet_15, sX10_hasSheet_16, ↓hk1, ↓hf1_8, ↓hk12, ↓bndi_at g, ↓if_neg z', if_pos z, or_true, ↓reduceIte]
  · have z' : A (12 + 1) (Int.toNat 0) ≤ 0 := by show A 13 0 ≤ 0; omega
    simp (disch := omega) only [eX10_hasSheet, sX10_hasSheet_0, sX10_hasSheet_1, sX10_hasSheet_4, sX10_hasSheet_5, sX10_hasSheet_8, sX10_hasSheet_11, sX10_hasSheet_12, sX10_hasSheet_15, sX10_hasSheet_16, ↓hk1, ↓hf1_8, ↓hk12, ↓bndi_at g, ↓if_pos z', if_neg z, true_or, ↓reduceIte]
theorem E_goers : cl mX10_goers [vr 1] (HP A F E) = some (vi (A 13 1), HP A F E) := by
  have g := h_get (A := A) (F := F) (E := E) (i := 1) wad_12 (by omega) (by omega)
  simp (disch := omega) only [eX10_goers, sX10_goers_0, sX10_goers_1, sX10_goers_4, sX10_goers_5, sX10_goers_8, ↓hk1, ↓hf1_8, ↓hk12, ↓bndi_at g]
  rfl
theorem E_isGoer {g : Int} (h0 : 0 ≤ A 13 1) (h1 : A 13 1 ≤ 5) : cl mX10_isGoer [vr 1, vi g] (HP A F E) = some (vi (if 0 ≤ g ∧ g < A 13 1 then 1 else 0), HP A F E) := by
  have e : (0 ≤ g ∧ g ≤ A 13 1 - 1) = (0 ≤ g ∧ g < A 13 1) := by rw [eq_iff_iff]; omega
  have w := E_within (v := g) (lo := 0) (hi := A 13 1 - 1) (h := HP A F E)
  simp only [e] at w
  by_cases z : 0 ≤ g ∧ g < A 13 1
  · rw [if_pos z] at w
    simp (disch := omega) only [eX10_isGoer, sX10_isGoer_0, sX10_isGoer_1, sX10_isGoer_2, sX10_isGoer_3, sX10_isGoer_6, sX10_isGoer_7, sX10_isGoer_8, sX10_isGoer_11, ↓hk1, ↓bndi_at E_goers, i32_of, ↓bndi_at w, if_pos z, or_true, ↓reduceIte]
  · rw [if_neg z] at w
    simp (disch := omega) only [eX10_isGoer, sX10_isGoer_0, sX10_isGoer_1, sX10_isGoer_2, sX10_isGoer_3, sX10_isGoer_6, sX10_isGoer_7, sX10_isGoer_8, sX10_isGoer_11, ↓hk1, ↓bndi_at E_goers, i32_of, ↓bndi_at w, if_neg z, true_or, ↓reduceIte]
theorem E_isOn {g : Int} (h0 : 0 ≤ A 13 1) (h1 : A 13 1 ≤ 5) : cl mX10_isOn [vr 1, vi g] (HP A F E) = some (vi (if (0 ≤ g ∧ g < A 13 1) ∧ A 13 (47 + 7 * g + 3).toNat = 0 then 1 else 0), HP A F E) := by
  have w := E_isGoer (F := F) (E := E) (g := g) h0 h1
  by_cases z : 0 ≤ g ∧ g < A 13 1
  · have o := h_isOn (A := A) (F := F) (E := E) (g := g) wad_12 z.1 (by omega)
    rw [if_pos z] at w
    by_cases z2 : A 13 (47 + 7 * g + 3).toNat = 0
    · rw [if_pos z2] at o
      simp (disch := omega) only [eX10_isOn, sX10_isOn_0, sX10_isOn_1, sX10_isOn_2, sX10_isOn_5, sX10_isOn_8, sX10_isOn_9, sX10_isOn_12, sX10_isOn_13, sX10_isOn_16, sX10_isOn_19, sX10_isOn_20, sX10_isOn_23, sX10_isOn_24, ↓hk1, ↓hf1_8, ↓hk12, ↓bndi_at w, ↓bndi_at o, if_pos (And.intro z z2), or_true, ↓reduceIte, Int.reduceEq]
    · rw [if_neg z2] at o
      have z3 : ¬ ((0 ≤ g ∧ g < A 13 1) ∧ A 13 (47 + 7 * g + 3).toNat = 0) := fun q => z2 q.2
      simp (disch := omega) only [eX10_isOn, sX10_isOn_0, sX10_isOn_1, sX10_isOn_2, sX10_isOn_5, sX10_isOn_8, sX10_isOn_9, sX10_isOn_12, sX10_isOn_13, sX10_isOn_16, sX10_isOn_19, sX10_isOn_20, sX10_isOn_23, sX10_isOn_24, ↓hk1, ↓hf1_8, ↓hk12, ↓bndi_at w, ↓bndi_at o, if_neg z3, true_or, ↓reduceIte, Int.reduceEq]
  · rw [if_neg z] at w
    have z3 : ¬ ((0 ≤ g ∧ g < A 13 1) ∧ A 13 (47 + 7 * g + 3).toNat = 0) := fun q => z q.1
    simp (disch := omega) only [eX10_isOn, sX10_isOn_0, sX10_isOn_1, sX10_isOn_2, sX10_isOn_5, sX10_isOn_8, sX10_isOn_9, sX10_isOn_12, sX10_isOn_13, sX10_isOn_16, sX10_isOn_19, sX10_isOn_20, sX10_isOn_23, sX10_isOn_24, ↓hk1, ↓hf1_8, ↓hk12, ↓bndi_at w, if_neg z3, true_or, ↓reduceIte, Int.reduceEq]
theorem E_isCell {c : Int} (h0 : 0 ≤ A 13 0) (h1 : A 13 0 ≤ 6) : cl mX10_isCell [vr 1, vi c] (HP A F E) = some (vi (if 0 ≤ c ∧ c < A 13 0 * A 13 0 then 1 else 0), HP A F E) := by
  have q := sq_b h0 h1
  have e : (0 ≤ c ∧ c ≤ A 13 0 * A 13 0 - 1) = (0 ≤ c ∧ c < A 13 0 * A 13 0) := by rw [eq_iff_iff]; omega
  have w := E_within (v := c) (lo := 0) (hi := A 13 0 * A 13 0 - 1) (h := HP A F E)
  have cs : cl mX9_cells [vr 12] (HP A F E) = some (vi (A 13 0 * A 13 0), HP A F E) := h_cells wad_12 h0 h1
  simp only [e] at w
  by_cases z : 0 ≤ c ∧ c < A 13 0 * A 13 0
  · rw [if_pos z] at w
    simp (disch := omega) only [eX10_isCell, sX10_isCell_0, sX10_isCell_1, sX10_isCell_2, sX10_isCell_3, sX10_isCell_6, sX10_isCell_9, sX10_isCell_10, sX10_isCell_11, sX10_isCell_14, ↓hk1, ↓hf1_8, ↓hk12, ↓bndi_at cs, i32_of, ↓bndi_at w, if_pos z, or_true, ↓reduceIte]
  · rw [if_neg z] at w
    simp (disch := omega) only [eX10_isCell, sX10_isCell_0, sX10_isCell_1, sX10_isCell_2, sX10_isCell_3, sX10_isCell_6, sX10_isCell_9, sX10_isCell_10, sX10_isCell_11, sX10_isCell_14, ↓hk1, ↓hf1_8, ↓hk12, ↓bndi_at cs, i32_of, ↓bndi_at w, if_neg z, true_or, ↓reduceIte]
theorem E_isEdge {e : Int} {h : zH} : cl mX10_isEdge [vi e] h = some (vi (if 0 ≤ e ∧ e ≤ 3 then 1 else 0), h) := by
  have w := E_within (v := e) (lo := 0) (hi := 3) (h := h)
  by_cases z : 0 ≤ e ∧ e ≤ 3
  · rw [if_pos z] at w
    simp (disch := omega) only [eX10_isEdge, sX10_isEdge_0, sX10_isEdge_1, sX10_isEdge_2, sX10_isEdge_3, sX10_isEdge_6, ↓bndi_at w, if_pos z, or_true, ↓reduceIte]
  · rw [if_neg z] at w
    simp (disch := omega) only [eX10_isEdge, sX10_isEdge_0, sX10_isEdge_1, sX10_isEdge_2, sX10_isEdge_3, sX10_isEdge_6, ↓bndi_at w, if_neg z, true_or, ↓reduceIte]
theorem E_ruleOf {k : Int} (hr : F 1 4 = (E.2.1 : Int)) (h6 : E.2.1 ≤ 6) (k0 : -1 ≤ k) (k1 : k < E.2.1) : cl mX10_ruleOf [vr 1, vi k] (HP A F E) = some (vr (rad k), HP A F E) := by
  have w := E_within (v := k) (lo := 0) (hi := F 1 4 - 1) (h := HP A F E)
  unfold rad
  by_cases z : k < 0
  · rw [if_neg (by omega)] at w
    rw [if_pos z]
    simp (disch := omega) only [eX10_ruleOf, sX10_ruleOf_0, sX10_ruleOf_1, sX10_ruleOf_2, sX10_ruleOf_3, sX10_ruleOf_6, sX10_ruleOf_7, sX10_ruleOf_8, sX10_ruleOf_11, sX10_ruleOf_14, sX10_ruleOf_15, sX10_ruleOf_18, sX10_ruleOf_19, sX10_ruleOf_20, sX10_ruleOf_23, sX10_ruleOf_24, ↓hk1, ↓hf1_4, i32_of, ↓bndi_at w, ↓reduceIte]
  · rw [if_pos (by omega)] at w
    rw [if_neg z]
    simp (disch := omega) only [eX10_ruleOf, sX10_ruleOf_0, sX10_ruleOf_1, sX10_ruleOf_2, sX10_ruleOf_3, sX10_ruleOf_6, sX10_ruleOf_7, sX10_ruleOf_8, sX10_ruleOf_11, sX10_ruleOf_14, sX10_ruleOf_15, sX10_ruleOf_18, sX10_ruleOf_19, sX10_ruleOf_20, sX10_ruleOf_23, sX10_ruleOf_24, ↓hk1, ↓hf1_4, ↓hf1_3, i32_of, ↓bndi_at w, ↓reduceIte, Int.reduceEq, ↓hg9]
theorem E_ruleInForce (hr : F 1 4 = (E.2.1 : Int)) (h6 : E.2.1 ≤ 6) (k0 : -1 ≤ F 1 5) (k1 : F 1 5 < E.2.1) : cl mX10_ruleInForce [vr 1] (HP A F E) = some (vr (rad (F 1 5)), HP A F E) := by
  have w := E_ruleOf (A := A) hr h6 k0 k1
  simp (disch := omega) only [eX10_ruleInForce, sX10_ruleInForce_0, sX10_ruleInForce_1, sX10_ruleInForce_2, sX10_ruleInForce_5, sX10_ruleInForce_8, ↓hk1, ↓hf1_5, ↓bndr_at w]
theorem E_restart (c1 : cn 82 (A 13)) (c2 : cn 82 (A 15)) : cl mX10_restart [vr 1] (HP A F E) = some (vn, HP (aup A 15 (A 13)) (aup F 14 (fup (F 14) 1 (-1))) E) := by
  have w := h_copy (A := A) (F := F) (E := E) wad_14 wad_12 c2 c1
  simp (disch := omega) only [eX10_restart, sX10_restart_0, sX10_restart_1, sX10_restart_4, sX10_restart_5, sX10_restart_8, sX10_restart_11, ↓hk1, ↓hf1_8, ↓hf1_9, ↓hk14, ↓bndv_at w]
end CH
