/-! the class's World: a row of 82 ints -/
section WORLD
variable {h : zH} {a r : Nat} {lu : Int} {f : Nat → Int}
theorem W_get {i : Int} (ha : h.2 a = zob 8 [vr r, vi lu]) (hr : h.2 r = zar 1 82 f) (h0 : 0 ≤ i) (h1 : i < 82) : cl mX9_get [vr a, vi i] h = some (vi (f i.toNat), h) := by
  simp (disch := omega) only [eX9_get, sX9_get_0, sX9_get_1, sX9_get_4, sX9_get_5, sX9_get_6, sX9_get_9, sX9_get_10, sX9_get_13, sX9_get_14, sX9_get_17, sX9_get_18, sX9_get_19, sX9_get_22, sX9_get_23, gfi_0, gfi_s, gfr_0, gfr_s, gfl_0, gfl_s, cki_k, bndi_k, bndl_k, bndr_k, bndv_k, zup_2, zup_1, ↓reduceIte, if_true, if_false, true_or, or_true, not_true_eq_false, not_false_eq_true, ha, hr, gle_k, gel_k, if_pos, if_neg]
theorem W_set {i v : Int} (ha : h.2 a = zob 8 [vr r, vi lu]) (hr : h.2 r = zar 1 82 f) (h0 : 0 ≤ i) (h1 : i < 82) : cl mX9_set [vr a, vi i, vi v] h = some (vn, zup h r (zar 1 82 (fup f i.toNat v))) := by
  simp (disch := omega) only [eX9_set, sX9_set_0, sX9_set_1, sX9_set_4, sX9_set_5, sX9_set_6, sX9_set_9, sX9_set_10, sX9_set_13, sX9_set_14, sX9_set_17, sX9_set_18, sX9_set_19, sX9_set_20, gfi_0, gfi_s, gfr_0, gfr_s, gfl_0, gfl_s, cki_k, bndi_k, bndl_k, bndr_k, bndv_k, zup_2, zup_1, ↓reduceIte, if_true, if_false, true_or, or_true, not_true_eq_false, not_false_eq_true, ha, hr, gle_k, sel_k, if_pos, if_neg]
theorem W_of {g p : Int} (ha : h.2 a = zob 8 [vr r, vi lu]) (hr : h.2 r = zar 1 82 f) (h0 : 0 ≤ g) (h1 : g ≤ 4) (h2 : 0 ≤ p) (h3 : p ≤ 6) : cl mX9_of [vr a, vi g, vi p] h = some (vi (f (47 + 7 * g + p).toNat), h) := by
  have e : i32 (i32 (47 + i32 (g * 7)) + p) = 47 + 7 * g + p := by
    rw [i32_of (z := g * 7) (by omega) (by omega), i32_of (z := 47 + g * 7) (by omega) (by omega), i32_of (by omega) (by omega)]
    omega
  simp (disch := omega) only [eX9_of, sX9_of_0, sX9_of_2, sX9_of_3, sX9_of_5, sX9_of_6, sX9_of_7, sX9_of_8, sX9_of_9, sX9_of_10, sX9_of_11, sX9_of_13, sX9_of_16, sX9_of_17, sX9_of_18, sX9_of_21, sX9_of_22, sX9_of_25, sX9_of_26, sX9_of_29, sX9_of_30, sX9_of_31, sX9_of_34, sX9_of_35, gfi_0, gfi_s, gfr_0, gfr_s, gfl_0, gfl_s, cki_k, bndi_k, bndl_k, bndr_k, bndv_k, zup_2, zup_1, ↓reduceIte, if_true, if_false, true_or, or_true, not_true_eq_false, not_false_eq_true, ha, hr, e, gle_k, gel_k, if_pos, if_neg]
theorem W_put {g p v : Int} (ha : h.2 a = zob 8 [vr r, vi lu]) (hr : h.2 r = zar 1 82 f) (h0 : 0 ≤ g) (h1 : g ≤ 4) (h2 : 0 ≤ p) (h3 : p ≤ 6) : cl mX9_put [vr a, vi g, vi p, vi v] h = some (vn, zup h r (zar 1 82 (fup f (47 + 7 * g + p).toNat v))) := by
  have e : i32 (i32 (47 + i32 (g * 7)) + p) = 47 + 7 * g + p := by
    rw [i32_of (z := g * 7) (by omega) (by omega), i32_of (z := 47 + g * 7) (by omega) (by omega), i32_of (by omega) (by omega)]
    omega
  simp (disch := omega) only [eX9_put, sX9_put_0, sX9_put_2, sX9_put_3, sX9_put_5, sX9_put_6, sX9_put_7, sX9_put_8, sX9_put_9, sX9_put_11, sX9_put_13, sX9_put_15, sX9_put_18, sX9_put_20, sX9_put_21, sX9_put_24, sX9_put_25, sX9_put_28, sX9_put_29, sX9_put_32, sX9_put_34, sX9_put_35, sX9_put_36, gfi_0, gfi_s, gfr_0, gfr_s, gfl_0, gfl_s, cki_k, bndi_k, bndl_k, bndr_k, bndv_k, zup_2, zup_1, ↓reduceIte, if_true, if_false, true_or, or_true, not_true_eq_false, not_false_eq_true, ha, hr, e, gle_k, sel_k, if_pos, if_neg]
theorem W_isOn {g : Int} (ha : h.2 a = zob 8 [vr r, vi lu]) (hr : h.2 r = zar 1 82 f) (h0 : 0 ≤ g) (h1 : g ≤ 4) : cl mX9_isOn [vr a, vi g] h = some (vi (if f (47 + 7 * g + 3).toNat = 0 then 1 else 0), h) := by
  simp (disch := omega) only [eX9_isOn, sX9_isOn_0, sX9_isOn_1, sX9_isOn_2, sX9_isOn_3, sX9_isOn_6, sX9_isOn_9, sX9_isOn_10, sX9_isOn_13, sX9_isOn_14, gfi_0, gfi_s, gfr_0, gfr_s, gfl_0, gfl_s, cki_k, bndi_k, bndl_k, bndr_k, bndv_k, zup_2, zup_1, ↓reduceIte, if_true, if_false, true_or, or_true, not_true_eq_false, not_false_eq_true, ha, W_of ha hr h0 h1 (show (0 : Int) ≤ 3 by omega) (show (3 : Int) ≤ 6 by omega), if_pos, if_neg]
  split <;> simp_all
theorem W_cells {s : Int} (ha : h.2 a = zob 8 [vr r, vi lu]) (hr : h.2 r = zar 1 82 f) (hs : f 0 = s) (h0 : 0 ≤ s) (h1 : s ≤ 6) : cl mX9_cells [vr a] h = some (vi (s * s), h) := by
  have e : f (Int.toNat 0) = s := hs
  have q : 0 ≤ s * s := Int.mul_nonneg h0 h0
  have q2 : s * s ≤ 6 * 6 := Int.mul_le_mul h1 h1 h0 (by omega)
  simp (disch := omega) only [eX9_cells, sX9_cells_0, sX9_cells_1, sX9_cells_2, sX9_cells_5, sX9_cells_6, sX9_cells_7, sX9_cells_10, sX9_cells_11, gfi_0, gfi_s, gfr_0, gfr_s, gfl_0, gfl_s, cki_k, bndi_k, bndl_k, bndr_k, bndv_k, zup_2, zup_1, ↓reduceIte, if_true, if_false, true_or, or_true, not_true_eq_false, not_false_eq_true, ha, W_get ha hr, e, i32_of]
theorem W_lastUsed (ha : h.2 a = zob 8 [vr r, vi lu]) : cl mX9_lastUsed [vr a] h = some (vi lu, h) := by
  simp only [eX9_lastUsed, sX9_lastUsed_0, sX9_lastUsed_1, sX9_lastUsed_4, gfi_0, gfi_s, gfr_0, gfr_s, gfl_0, gfl_s, cki_k, bndi_k, bndl_k, bndr_k, bndv_k, zup_2, zup_1, ↓reduceIte, if_true, if_false, true_or, or_true, not_true_eq_false, not_false_eq_true, ha]
end WORLD
/-! the sheet's geometry -/
def wnx (s c fa : Int) : Int := if fa = 0 then (if s ≤ c then c - s else -1) else if fa = 1 then (if c % s < s - 1 then c + 1 else -1) else if fa = 2 then (if c + s < s * s then c + s else -1) else (if 0 < c % s then c - 1 else -1)
def wmg (s c fa : Int) : Int := if fa = 0 then c / s else if fa = 1 then s - 1 - c % s else if fa = 2 then s - 1 - c / s else c % s
def wpl (s c e : Int) : Int := if e % 2 = 0 then c % s else c / s
def wca (s e p : Int) : Int := if e = 0 then p else if e = 1 then p * s + s - 1 else if e = 2 then (s - 1) * s + p else p * s
theorem mul36 {a b : Int} (h1 : 0 ≤ a) (h2 : a ≤ 6) (h3 : 0 ≤ b) (h4 : b ≤ 6) : 0 ≤ a * b ∧ a * b ≤ 36 := ⟨Int.mul_nonneg h1 h3, Int.le_trans (Int.mul_le_mul h2 h4 h3 (by omega)) (by omega)⟩
theorem emb {c s : Int} (h : 0 < s) : 0 ≤ c % s ∧ c % s < s := ⟨Int.emod_nonneg _ (by omega), Int.emod_lt_of_pos _ h⟩
theorem edb {c s : Int} (h : 0 < s) (h0 : 0 ≤ c) : 0 ≤ c / s ∧ c / s ≤ c := ⟨Int.ediv_nonneg h0 (by omega), Int.ediv_le_self _ h0⟩
section WORLD2
variable {h : zH} {a r : Nat} {lu : Int} {f : Nat → Int} {s : Int}
theorem W_rowOf {c : Int} (ha : h.2 a = zob 8 [vr r, vi lu]) (hr : h.2 r = zar 1 82 f) (hs : f 0 = s) (h1 : 1 ≤ s) (h2 : s ≤ 6) (h3 : 0 ≤ c) (h4 : c ≤ 35) : cl mX9_rowOf [vr a, vi c] h = some (vi (c / s), h) := by
  have e : f (Int.toNat 0) = s := hs
  simp (disch := omega) only [eX9_rowOf, sX9_rowOf_0, sX9_rowOf_1, sX9_rowOf_4, sX9_rowOf_5, sX9_rowOf_6, sX9_rowOf_7, sX9_rowOf_8, sX9_rowOf_11, sX9_rowOf_12, sX9_rowOf_13, sX9_rowOf_14, sX9_rowOf_17, sX9_rowOf_18, gfi_0, gfi_s, gfr_0, gfr_s, gfl_0, gfl_s, cki_k, bndi_k, bndl_k, bndr_k, bndv_k, zup_2, zup_1, ↓reduceIte, if_true, if_false, true_or, or_true, not_true_eq_false, not_false_eq_true, ha, hr, gel_k, e, q_div, if_pos, if_neg]
theorem W_columnOf {c : Int} (ha : h.2 a = zob 8 [vr r, vi lu]) (hr : h.2 r = zar 1 82 f) (hs : f 0 = s) (h1 : 1 ≤ s) (h2 : s ≤ 6) (h3 : 0 ≤ c) (h4 : c ≤ 35) : cl mX9_columnOf [vr a, vi c] h = some (vi (c % s), h) := by
  have e : f (Int.toNat 0) = s := hs
  simp (disch := omega) only [eX9_columnOf, sX9_columnOf_0, sX9_columnOf_1, sX9_columnOf_4, sX9_columnOf_5, sX9_columnOf_6, sX9_columnOf_7, sX9_columnOf_8, sX9_columnOf_11, sX9_columnOf_12, sX9_columnOf_13, sX9_columnOf_14, sX9_columnOf_17, sX9_columnOf_18, gfi_0, gfi_s, gfr_0, gfr_s, gfl_0, gfl_s, cki_k, bndi_k, bndl_k, bndr_k, bndv_k, zup_2, zup_1, ↓reduceIte, if_true, if_false, true_or, or_true, not_true_eq_false, not_false_eq_true, ha, hr, gel_k, e, q_rem, if_pos, if_neg]
theorem W_margin {c fa : Int} (ha : h.2 a = zob 8 [vr r, vi lu]) (hr : h.2 r = zar 1 82 f) (hs : f 0 = s) (h1 : 1 ≤ s) (h2 : s ≤ 6) (h3 : 0 ≤ c) (h4 : c ≤ 35) (h5 : 0 ≤ fa) (h6 : fa ≤ 3) : cl mX9_margin [vr a, vi c, vi fa] h = some (vi (wmg s c fa), h) := by
  have e : f (Int.toNat 0) = s := hs
  have m := emb (c := c) (s := s) (by omega)
  have d := edb (c := c) (s := s) (by omega) h3
  have hf : fa = 0 ∨ fa = 1 ∨ fa = 2 ∨ fa = 3 := by omega
  rcases hf with rfl | rfl | rfl | rfl <;> simp (disch := omega) only [eX9_margin, sX9_margin_0, sX9_margin_1, sX9_margin_4, sX9_margin_5, sX9_margin_6, sX9_margin_7, sX9_margin_8, sX9_margin_9, sX9_margin_12, sX9_margin_13, sX9_margin_14, sX9_margin_15, sX9_margin_40, sX9_margin_41, sX9_margin_42, sX9_margin_43, sX9_margin_44, sX9_margin_45, sX9_margin_46, sX9_margin_47, sX9_margin_48, sX9_margin_49, sX9_margin_50, sX9_margin_51, sX9_margin_52, sX9_margin_53, sX9_margin_54, sX9_margin_55, sX9_margin_56, sX9_margin_57, sX9_margin_58, sX9_margin_59, sX9_margin_60, sX9_margin_61, sX9_margin_62, sX9_margin_63, gfi_0, gfi_s, gfr_0, gfr_s, gfl_0, gfl_s, cki_k, bndi_k, bndl_k, bndr_k, bndv_k, zup_2, zup_1, ↓reduceIte, if_true, if_false, true_or, or_true, not_true_eq_false, not_false_eq_true, ha, hr, gel_k, e, q_rem, q_div, if_pos, if_neg, swc, wmg, i32_of]
theorem W_nextCell {c fa : Int} (ha : h.2 a = zob 8 [vr r, vi lu]) (hr : h.2 r = zar 1 82 f) (hs : f 0 = s) (h1 : 1 ≤ s) (h2 : s ≤ 6) (h3 : 0 ≤ c) (h4 : c ≤ 35) (h5 : 0 ≤ fa) (h6 : fa ≤ 3) : cl mX9_nextCell [vr a, vi c, vi fa] h = some (vi (wnx s c fa), h) := by
  have e : f (Int.toNat 0) = s := hs
  have m := emb (c := c) (s := s) (by omega)
  have q := mul36 (a := s) (b := s) (by omega) h2 (by omega) h2
  have hf : fa = 0 ∨ fa = 1 ∨ fa = 2 ∨ fa = 3 := by omega
  rcases hf with rfl | rfl | rfl | rfl
  · simp (disch := omega) only [eX9_nextCell, sX9_nextCell_0, sX9_nextCell_1, sX9_nextCell_4, sX9_nextCell_5, sX9_nextCell_6, sX9_nextCell_7, sX9_nextCell_8, sX9_nextCell_9, sX9_nextCell_12, sX9_nextCell_13, sX9_nextCell_14, sX9_nextCell_15, sX9_nextCell_40, sX9_nextCell_41, sX9_nextCell_42, sX9_nextCell_45, sX9_nextCell_46, sX9_nextCell_47, sX9_nextCell_48, sX9_nextCell_51, sX9_nextCell_52, sX9_nextCell_53, sX9_nextCell_54, sX9_nextCell_55, sX9_nextCell_56, sX9_nextCell_57, sX9_nextCell_58, sX9_nextCell_59, sX9_nextCell_62, sX9_nextCell_63, sX9_nextCell_64, sX9_nextCell_65, sX9_nextCell_68, sX9_nextCell_69, sX9_nextCell_70, sX9_nextCell_71, sX9_nextCell_72, sX9_nextCell_73, sX9_nextCell_74, sX9_nextCell_75, sX9_nextCell_76, sX9_nextCell_79, sX9_nextCell_80, sX9_nextCell_81, sX9_nextCell_82, sX9_nextCell_85, sX9_nextCell_86, sX9_nextCell_87, sX9_nextCell_88, sX9_nextCell_89, sX9_nextCell_90, sX9_nextCell_93, sX9_nextCell_94, sX9_nextCell_95, sX9_nextCell_96, sX9_nextCell_99, sX9_nextCell_100, gfi_0, gfi_s, gfr_0, gfr_s, gfl_0, gfl_s, cki_k, bndi_k, bndl_k, bndr_k, bndv_k, zup_2, zup_1, ↓reduceIte, if_true, if_false, true_or, or_true, not_true_eq_false, not_false_eq_true, ha, hr, gel_k, e, q_rem, if_neg, if_pos, swc, wnx, i32_of]
    by_cases z : s ≤ c
    · simp (disch := omega) only [if_pos, if_neg, ↓reduceIte, if_true, if_false]
    · simp (disch := omega) only [if_pos, if_neg, ↓reduceIte, if_true, if_false]
  · simp (disch := omega) only [eX9_nextCell, sX9_nextCell_0, sX9_nextCell_1, sX9_nextCell_4, sX9_nextCell_5, sX9_nextCell_6, sX9_nextCell_7, sX9_nextCell_8, sX9_nextCell_9, sX9_nextCell_12, sX9_nextCell_13, sX9_nextCell_14, sX9_nextCell_15, sX9_nextCell_40, sX9_nextCell_41, sX9_nextCell_42, sX9_nextCell_45, sX9_nextCell_46, sX9_nextCell_47, sX9_nextCell_48, sX9_nextCell_51, sX9_nextCell_52, sX9_nextCell_53, sX9_nextCell_54, sX9_nextCell_55, sX9_nextCell_56, sX9_nextCell_57, sX9_nextCell_58, sX9_nextCell_59, sX9_nextCell_62, sX9_nextCell_63, sX9_nextCell_64, sX9_nextCell_65, sX9_nextCell_68, sX9_nextCell_69, sX9_nextCell_70, sX9_nextCell_71, sX9_nextCell_72, sX9_nextCell_73, sX9_nextCell_74, sX9_nextCell_75, sX9_nextCell_76, sX9_nextCell_79, sX9_nextCell_80, sX9_nextCell_81, sX9_nextCell_82, sX9_nextCell_85, sX9_nextCell_86, sX9_nextCell_87, sX9_nextCell_88, sX9_nextCell_89, sX9_nextCell_90, sX9_nextCell_93, sX9_nextCell_94, sX9_nextCell_95, sX9_nextCell_96, sX9_nextCell_99, sX9_nextCell_100, gfi_0, gfi_s, gfr_0, gfr_s, gfl_0, gfl_s, cki_k, bndi_k, bndl_k, bndr_k, bndv_k, zup_2, zup_1, ↓reduceIte, if_true, if_false, true_or, or_true, not_true_eq_false, not_false_eq_true, ha, hr, gel_k, e, q_rem, if_neg, if_pos, swc, wnx, i32_of]
    by_cases z : c % s < s - 1
    · simp (disch := omega) only [if_pos, if_neg, ↓reduceIte, if_true, if_false]
    · simp (disch := omega) only [if_pos, if_neg, ↓reduceIte, if_true, if_false]
  · simp (disch := omega) only [eX9_nextCell, sX9_nextCell_0, sX9_nextCell_1, sX9_nextCell_4, sX9_nextCell_5, sX9_nextCell_6, sX9_nextCell_7, sX9_nextCell_8, sX9_nextCell_9, sX9_nextCell_12, sX9_nextCell_13, sX9_nextCell_14, sX9_nextCell_15, sX9_nextCell_40, sX9_nextCell_41, sX9_nextCell_42, sX9_nextCell_45, sX9_nextCell_46, sX9_nextCell_47, sX9_nextCell_48, sX9_nextCell_51, sX9_nextCell_52, sX9_nextCell_53, sX9_nextCell_54, sX9_nextCell_55, sX9_nextCell_56, sX9_nextCell_57, sX9_nextCell_58, sX9_nextCell_59, sX9_nextCell_62, sX9_nextCell_63, sX9_nextCell_64, sX9_nextCell_65, sX9_nextCell_68, sX9_nextCell_69, sX9_nextCell_70, sX9_nextCell_71, sX9_nextCell_72, sX9_nextCell_73, sX9_nextCell_74, sX9_nextCell_75, sX9_nextCell_76, sX9_nextCell_79, sX9_nextCell_80, sX9_nextCell_81, sX9_nextCell_82, sX9_nextCell_85, sX9_nextCell_86, sX9_nextCell_87, sX9_nextCell_88, sX9_nextCell_89, sX9_nextCell_90, sX9_nextCell_93, sX9_nextCell_94, sX9_nextCell_95, sX9_nextCell_96, sX9_nextCell_99, sX9_nextCell_100, gfi_0, gfi_s, gfr_0, gfr_s, gfl_0, gfl_s, cki_k, bndi_k, bndl_k, bndr_k, bndv_k, zup_2, zup_1, ↓reduceIte, if_true, if_false, true_or, or_true, not_true_eq_false, not_false_eq_true, ha, hr, gel_k, e, q_rem, if_neg, if_pos, swc, wnx, i32_of]
    by_cases z : c + s < s * s
    · simp (disch := omega) only [if_pos, if_neg, ↓reduceIte, if_true, if_false]
    · simp (disch := omega) only [if_pos, if_neg, ↓reduceIte, if_true, if_false]
  · simp (disch := omega) only [eX9_nextCell, sX9_nextCell_0, sX9_nextCell_1, sX9_nextCell_4, sX9_nextCell_5, sX9_nextCell_6, sX9_nextCell_7, sX9_nextCell_8, sX9_nextCell_9, sX9_nextCell_12, sX9_nextCell_13, sX9_nextCell_14, sX9_nextCell_15, sX9_nextCell_40, sX9_nextCell_41, sX9_nextCell_42, sX9_nextCell_45, sX9_nextCell_46, sX9_nextCell_47, sX9_nextCell_48, sX9_nextCell_51, sX9_nextCell_52, sX9_nextCell_53, sX9_nextCell_54, sX9_nextCell_55, sX9_nextCell_56, sX9_nextCell_57, sX9_nextCell_58, sX9_nextCell_59, sX9_nextCell_62, sX9_nextCell_63, sX9_nextCell_64, sX9_nextCell_65, sX9_nextCell_68, sX9_nextCell_69, sX9_nextCell_70, sX9_nextCell_71, sX9_nextCell_72, sX9_nextCell_73, sX9_nextCell_74, sX9_nextCell_75, sX9_nextCell_76, sX9_nextCell_79, sX9_nextCell_80, sX9_nextCell_81, sX9_nextCell_82, sX9_nextCell_85, sX9_nextCell_86, sX9_nextCell_87, sX9_nextCell_88, sX9_nextCell_89, sX9_nextCell_90, sX9_nextCell_93, sX9_nextCell_94, sX9_nextCell_95, sX9_nextCell_96, sX9_nextCell_99, sX9_nextCell_100, gfi_0, gfi_s, gfr_0, gfr_s, gfl_0, gfl_s, cki_k, bndi_k, bndl_k, bndr_k, bndv_k, zup_2, zup_1, ↓reduceIte, if_true, if_false, true_or, or_true, not_true_eq_false, not_false_eq_true, ha, hr, gel_k, e, q_rem, if_neg, if_pos, swc, wnx, i32_of]
    by_cases z : 0 < c % s
    · simp (disch := omega) only [if_pos, if_neg, ↓reduceIte, if_true, if_false]
    · simp (disch := omega) only [if_pos, if_neg, ↓reduceIte, if_true, if_false]
theorem W_placeOf {c fa : Int} (ha : h.2 a = zob 8 [vr r, vi lu]) (hr : h.2 r = zar 1 82 f) (hs : f 0 = s) (h1 : 1 ≤ s) (h2 : s ≤ 6) (h3 : 0 ≤ c) (h4 : c ≤ 35) (h5 : 0 ≤ fa) (h6 : fa ≤ 3) : cl mX9_placeOf [vr a, vi c, vi fa] h = some (vi (wpl s c fa), h) := by
  have hc := W_columnOf ha hr hs h1 h2 h3 h4
  have hw := W_rowOf ha hr hs h1 h2 h3 h4
  have hq : q2 (· &&& ·) fa 1 = fa % 2 := q_and1 (i32_of (by omega) (by omega))
  simp only [eX9_placeOf, sX9_placeOf_0, sX9_placeOf_1, sX9_placeOf_2, sX9_placeOf_3, sX9_placeOf_6, sX9_placeOf_7, sX9_placeOf_8, sX9_placeOf_11, sX9_placeOf_14, sX9_placeOf_15, sX9_placeOf_16, sX9_placeOf_19, gfi_0, gfi_s, gfr_0, gfr_s, gfl_0, gfl_s, cki_k, bndi_k, bndl_k, bndr_k, bndv_k, zup_2, zup_1, ↓reduceIte, if_true, if_false, true_or, or_true, not_true_eq_false, not_false_eq_true, ha, hq, hc, hw, wpl]
  by_cases z : fa % 2 = 0
  · simp only [z, if_true, not_true_eq_false, if_false]
  · simp only [z, if_true, not_false_eq_true, if_false]
theorem W_cellAt {ed p : Int} (ha : h.2 a = zob 8 [vr r, vi lu]) (hr : h.2 r = zar 1 82 f) (hs : f 0 = s) (h1 : 1 ≤ s) (h2 : s ≤ 6) (h3 : 0 ≤ p) (h4 : p < s) (h5 : 0 ≤ ed) (h6 : ed ≤ 3) : cl mX9_cellAt [vr a, vi ed, vi p] h = some (vi (wca s ed p), h) := by
  have e : f (Int.toNat 0) = s := hs
  have q := mul36 (a := p) (b := s) (by omega) (by omega) (by omega) h2
  have q' := mul36 (a := s - 1) (b := s) (by omega) (by omega) (by omega) h2
  have hf : ed = 0 ∨ ed = 1 ∨ ed = 2 ∨ ed = 3 := by omega
  rcases hf with rfl | rfl | rfl | rfl <;> simp (disch := omega) only [eX9_cellAt, sX9_cellAt_0, sX9_cellAt_1, sX9_cellAt_4, sX9_cellAt_5, sX9_cellAt_6, sX9_cellAt_7, sX9_cellAt_8, sX9_cellAt_36, sX9_cellAt_37, sX9_cellAt_38, sX9_cellAt_39, sX9_cellAt_40, sX9_cellAt_41, sX9_cellAt_42, sX9_cellAt_43, sX9_cellAt_44, sX9_cellAt_45, sX9_cellAt_46, sX9_cellAt_47, sX9_cellAt_48, sX9_cellAt_49, sX9_cellAt_50, sX9_cellAt_51, sX9_cellAt_52, sX9_cellAt_53, sX9_cellAt_54, sX9_cellAt_55, sX9_cellAt_56, sX9_cellAt_57, gfi_0, gfi_s, gfr_0, gfr_s, gfl_0, gfl_s, cki_k, bndi_k, bndl_k, bndr_k, bndv_k, zup_2, zup_1, ↓reduceIte, if_true, if_false, true_or, or_true, not_true_eq_false, not_false_eq_true, ha, hr, gel_k, e, if_pos, if_neg, swc, wca, i32_of]
theorem W_hasStone {c : Int} (ha : h.2 a = zob 8 [vr r, vi lu]) (hr : h.2 r = zar 1 82 f) (hl : -1 ≤ c) (h4 : c ≤ 1000) : cl mX9_hasStone [vr a, vi c] h = some (vi (if 0 ≤ c ∧ c < 36 ∧ f (11 + c).toNat ≠ 0 then 1 else 0), h) := by
  by_cases z1 : c < 0
  · simp (disch := omega) only [eX9_hasStone, sX9_hasStone_0, sX9_hasStone_1, sX9_hasStone_4, sX9_hasStone_5, sX9_hasStone_7, sX9_hasStone_10, sX9_hasStone_11, sX9_hasStone_14, sX9_hasStone_16, sX9_hasStone_17, sX9_hasStone_18, sX9_hasStone_19, sX9_hasStone_22, sX9_hasStone_23, sX9_hasStone_26, sX9_hasStone_27, gfi_0, gfi_s, gfr_0, gfr_s, gfl_0, gfl_s, cki_k, bndi_k, bndl_k, bndr_k, bndv_k, zup_2, zup_1, ↓reduceIte, if_true, if_false, true_or, or_true, not_true_eq_false, not_false_eq_true, ha, hr, if_pos, if_neg]
  · by_cases z2 : 36 ≤ c
    · simp (disch := omega) only [eX9_hasStone, sX9_hasStone_0, sX9_hasStone_1, sX9_hasStone_4, sX9_hasStone_5, sX9_hasStone_7, sX9_hasStone_10, sX9_hasStone_11, sX9_hasStone_14, sX9_hasStone_16, sX9_hasStone_17, sX9_hasStone_18, sX9_hasStone_19, sX9_hasStone_22, sX9_hasStone_23, sX9_hasStone_26, sX9_hasStone_27, gfi_0, gfi_s, gfr_0, gfr_s, gfl_0, gfl_s, cki_k, bndi_k, bndl_k, bndr_k, bndv_k, zup_2, zup_1, ↓reduceIte, if_true, if_false, true_or, or_true, not_true_eq_false, not_false_eq_true, ha, hr, if_pos, if_neg]
    · simp (disch := omega) only [eX9_hasStone, sX9_hasStone_0, sX9_hasStone_1, sX9_hasStone_4, sX9_hasStone_5, sX9_hasStone_7, sX9_hasStone_10, sX9_hasStone_11, sX9_hasStone_14, sX9_hasStone_16, sX9_hasStone_17, sX9_hasStone_18, sX9_hasStone_19, sX9_hasStone_22, sX9_hasStone_23, sX9_hasStone_26, sX9_hasStone_27, gfi_0, gfi_s, gfr_0, gfr_s, gfl_0, gfl_s, cki_k, bndi_k, bndl_k, bndr_k, bndv_k, zup_2, zup_1, ↓reduceIte, if_true, if_false, true_or, or_true, not_true_eq_false, not_false_eq_true, ha, hr, gel_k, i32_of, if_neg]
      by_cases z : f (11 + c).toNat = 0
      · simp [z]
      · have z3 : 0 ≤ c ∧ c < 36 ∧ f (11 + c).toNat ≠ 0 := ⟨by omega, by omega, z⟩
        simp [z, z3]
end WORLD2
