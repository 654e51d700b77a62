/-! a World's steps: coming in, biding out; bits, food, others -/
section WS
variable {h : zH} {a g : Nat} {α : Type}
theorem isW_row (hw : isW h a) {K : Nat → Option α} : gfr (h.2 a) 8 0 K = K (wr h a) := by rw [hw.1, gfr_0]
theorem isW_gel (hw : isW h a) {z : Int} {K : Int → Option α} (h0 : 0 ≤ z) (h1 : z < 82) : gel (h.2 (wr h a)) 1 z K = K (wf h a z.toNat) := by rw [hw.2.1, gel_k h0 (by omega)]
theorem isW_gle (hw : isW h a) {K : Int → Option α} : gle (h.2 (wr h a)) K = K 82 := by rw [hw.2.1, gle_k (by omega)]; rfl
theorem isW_sel (hw : isW h a) {z v : Int} {K : zC → Option α} (h0 : 0 ≤ z) (h1 : z < 82) : sel (h.2 (wr h a)) 1 z v K = K (zar 1 82 (fup (wf h a) z.toNat v)) := by rw [hw.2.1, sel_k h0 (by omega)]
theorem isW_glu (hw : isW h a) {K : Int → Option α} : gfi (h.2 a) 8 1 K = K (wl h a) := by rw [hw.1, gfi_s, gfi_0]
theorem isW_plu (hw : isW h a) {v : Int} {K : zC → Option α} : pfv (h.2 a) 8 1 (vi v) K = K (zob 8 [vr (wr h a), vi v]) := by rw [hw.1, pfv_k (by simp)]; rfl
theorem zup_lu {v : Int} : zup h a (zob 8 [vr (wr h a), vi v]) = wlu h a v := rfl
theorem zup_st {f : Nat → Int} : zup h (wr h a) (zar 1 82 f) = wst h a f := rfl
/-- coming in -/
def wci (f : Nat → Int) (g : Nat) : Nat → Int :=
  if f (11 + (wca (f 0) (f (3 + (f (48 + 7 * g)).toNat)) (f (53 + 7 * g))).toNat) ≠ 0 then f
  else fup (fup (fup f (50 + 7 * g) 0) (47 + 7 * g) (wca (f 0) (f (3 + (f (48 + 7 * g)).toNat)) (f (53 + 7 * g)))) (48 + 7 * g) ((f (3 + (f (48 + 7 * g)).toNat) + 2) % 4)
theorem wca_b {s e p : Int} (h1 : 1 ≤ s) (h2 : s ≤ 6) (h3 : 0 ≤ p) (h4 : p < s) (h5 : 0 ≤ e) (h6 : e ≤ 3) : 0 ≤ wca s e p ∧ wca s e p < s * s ∧ wca s e p ≤ 35 := by
  have q := mul36 (a := s) (b := s) (by omega) h2 (by omega) h2
  have q2 : p * s ≤ (s - 1) * s := Int.mul_le_mul_of_nonneg_right (by omega) (by omega)
  have q3 := Int.mul_nonneg h3 (show 0 ≤ s by omega)
  have q4 : (s - 1) * s = s * s - s := by rw [Int.sub_mul, Int.one_mul]
  unfold wca
  split
  · have : s * 1 ≤ s * s := Int.mul_le_mul_of_nonneg_left h1 (by omega)
    omega
  · split
    · omega
    · split <;> omega
theorem w_comeIn (hw : isW h a) (hg : g ≤ 4) (h1 : 1 ≤ wf h a 0) (h2 : wf h a 0 ≤ 6) (h3 : 0 ≤ wf h a (53 + 7 * g)) (h4 : wf h a (53 + 7 * g) < wf h a 0) (h5 : 0 ≤ wf h a (48 + 7 * g)) (h6 : wf h a (48 + 7 * g) ≤ 3) (h7 : 0 ≤ wf h a (3 + (wf h a (48 + 7 * g)).toNat)) (h8 : wf h a (3 + (wf h a (48 + 7 * g)).toNat) ≤ 3) : cl mX9_comeIn [vr a, vi (g : Int)] h = some (vn, wlu (wst h a (wci (wf h a) g)) a (if wl h a < wf h a (48 + 7 * g) then wf h a (48 + 7 * g) else wl h a)) := by
  generalize hf : wf h a = f at *
  generalize he : f (3 + (f (48 + 7 * g)).toNat) = ed at *
  generalize hm : (if wl h a < f (48 + 7 * g) then f (48 + 7 * g) else wl h a) = ml at *
  have cb := wca_b h1 h2 h3 h4 h7 h8
  have tn : (3 + f (48 + 7 * g)).toNat = 3 + (f (48 + 7 * g)).toNat := by omega
  have ca := w_cellAt (ed := ed) (p := f (53 + 7 * g)) hw (by rw [hf]; exact h1) (by rw [hf]; exact h2) h3 (by rw [hf]; exact h4) h7 h8
  rw [hf] at ca
  have sn := w_stone (c := wca (f 0) ed (f (53 + 7 * g))) (isW_lu (l := ml) hw) (by omega) (by omega)
  rw [wf_lu hw, hf, show (11 + wca (f 0) ed (f (53 + 7 * g))).toNat = 11 + (wca (f 0) ed (f (53 + 7 * g))).toNat by omega] at sn
  have q3 : q2 (· &&& ·) (ed + 2) 3 = (ed + 2) % 4 := q_and3 (i32_of (by omega) (by omega))
  unfold wci
  rw [he]
  by_cases z2 : f (11 + (wca (f 0) ed (f (53 + 7 * g))).toNat) ≠ 0
  · rw [if_pos ⟨by omega, by omega, z2⟩] at sn
    rw [if_pos z2]
    simp (disch := first | omega | assumption | ((repeat (first | apply isW_lu | apply isW_st)); assumption)) only [eX9_comeIn, sX9_comeIn_0, sX9_comeIn_1, sX9_comeIn_2, sX9_comeIn_3, sX9_comeIn_6, sX9_comeIn_7, sX9_comeIn_8, sX9_comeIn_9, sX9_comeIn_10, sX9_comeIn_11, sX9_comeIn_14, sX9_comeIn_15, sX9_comeIn_16, sX9_comeIn_17, sX9_comeIn_18, sX9_comeIn_19, sX9_comeIn_21, sX9_comeIn_24, sX9_comeIn_27, sX9_comeIn_29, sX9_comeIn_30, sX9_comeIn_31, sX9_comeIn_34, sX9_comeIn_35, sX9_comeIn_38, sX9_comeIn_41, sX9_comeIn_42, sX9_comeIn_44, sX9_comeIn_47, sX9_comeIn_50, sX9_comeIn_51, sX9_comeIn_52, sX9_comeIn_53, sX9_comeIn_54, sX9_comeIn_57, sX9_comeIn_58, sX9_comeIn_59, sX9_comeIn_60, sX9_comeIn_62, sX9_comeIn_65, sX9_comeIn_66, sX9_comeIn_67, sX9_comeIn_68, sX9_comeIn_69, sX9_comeIn_70, sX9_comeIn_71, sX9_comeIn_72, sX9_comeIn_73, sX9_comeIn_76, gfi_0, gfi_s, gfr_0, gfr_s, gfl_0, gfl_s, cki_k, bndi_k, bndl_k, bndr_k, bndv_k, zup_2, zup_1, ↓reduceIte, if_true, if_false, true_or, or_true, not_true_eq_false, not_false_eq_true, isW_cell, w_of1, w_of6, w_get, hf, i32_of, tn, he, ca, isW_glu, isW_plu, zup_lu, hm, sn, if_pos, if_neg]
    rw [← hf, wst_id hw]
  · rw [if_neg (fun q => z2 q.2.2)] at sn
    rw [if_neg z2]
    simp (disch := first | omega | assumption | ((repeat (first | apply isW_lu | apply isW_st)); assumption)) only [eX9_comeIn, sX9_comeIn_0, sX9_comeIn_1, sX9_comeIn_2, sX9_comeIn_3, sX9_comeIn_6, sX9_comeIn_7, sX9_comeIn_8, sX9_comeIn_9, sX9_comeIn_10, sX9_comeIn_11, sX9_comeIn_14, sX9_comeIn_15, sX9_comeIn_16, sX9_comeIn_17, sX9_comeIn_18, sX9_comeIn_19, sX9_comeIn_21, sX9_comeIn_24, sX9_comeIn_27, sX9_comeIn_29, sX9_comeIn_30, sX9_comeIn_31, sX9_comeIn_34, sX9_comeIn_35, sX9_comeIn_38, sX9_comeIn_41, sX9_comeIn_42, sX9_comeIn_44, sX9_comeIn_47, sX9_comeIn_50, sX9_comeIn_51, sX9_comeIn_52, sX9_comeIn_53, sX9_comeIn_54, sX9_comeIn_57, sX9_comeIn_58, sX9_comeIn_59, sX9_comeIn_60, sX9_comeIn_62, sX9_comeIn_65, sX9_comeIn_66, sX9_comeIn_67, sX9_comeIn_68, sX9_comeIn_69, sX9_comeIn_70, sX9_comeIn_71, sX9_comeIn_72, sX9_comeIn_73, sX9_comeIn_76, gfi_0, gfi_s, gfr_0, gfr_s, gfl_0, gfl_s, cki_k, bndi_k, bndl_k, bndr_k, bndv_k, zup_2, zup_1, ↓reduceIte, if_true, if_false, true_or, or_true, not_true_eq_false, not_false_eq_true, isW_cell, w_of1, w_of6, w_get, hf, i32_of, tn, he, ca, isW_glu, isW_plu, zup_lu, hm, sn, w_put3, w_put0, w_put1, wf_st, wf_lu, wst_st, wst_lu, q3, if_pos, if_neg]
/-- biding out -/
def wbo (f : Nat → Int) (g : Nat) : Nat → Int :=
  if f (49 + 7 * g) = 0 then fup (fup f (50 + 7 * g) 2) (51 + 7 * g) 0
  else if 0 < f (51 + 7 * g) then fup (fup f (49 + 7 * g) (f (49 + 7 * g) - 1)) (51 + 7 * g) (f (51 + 7 * g) - 1)
  else wci (fup f (49 + 7 * g) (f (49 + 7 * g) - 1)) g
def wbl (l : Int) (f : Nat → Int) (g : Nat) : Int :=
  if f (49 + 7 * g) = 0 then l else if 0 < f (51 + 7 * g) then l else if l < f (48 + 7 * g) then f (48 + 7 * g) else l
theorem w_bideOut (hw : isW h a) (hg : g ≤ 4) (h1 : 1 ≤ wf h a 0) (h2 : wf h a 0 ≤ 6) (h3 : 0 ≤ wf h a (53 + 7 * g)) (h4 : wf h a (53 + 7 * g) < wf h a 0) (h5 : 0 ≤ wf h a (48 + 7 * g)) (h6 : wf h a (48 + 7 * g) ≤ 3) (h7 : 0 ≤ wf h a (3 + (wf h a (48 + 7 * g)).toNat)) (h8 : wf h a (3 + (wf h a (48 + 7 * g)).toNat) ≤ 3) (h9 : 0 ≤ wf h a (49 + 7 * g)) (h10 : wf h a (49 + 7 * g) ≤ 99) (h11 : 0 ≤ wf h a (51 + 7 * g)) (h12 : wf h a (51 + 7 * g) ≤ 9) : cl mX9_bideOut [vr a, vi (g : Int)] h = some (vn, wlu (wst h a (wbo (wf h a) g)) a (wbl (wl h a) (wf h a) g)) := by
  generalize hf : wf h a = f at *
  unfold wbo wbl
  by_cases z : f (49 + 7 * g) = 0
  · rw [if_pos z, if_pos z]
    simp (disch := first | omega | assumption | ((repeat (first | apply isW_lu | apply isW_st)); assumption)) only [eX9_bideOut, sX9_bideOut_0, sX9_bideOut_1, sX9_bideOut_2, sX9_bideOut_3, sX9_bideOut_6, sX9_bideOut_7, sX9_bideOut_8, sX9_bideOut_9, sX9_bideOut_10, sX9_bideOut_13, sX9_bideOut_14, sX9_bideOut_15, sX9_bideOut_18, sX9_bideOut_19, sX9_bideOut_20, sX9_bideOut_21, sX9_bideOut_22, sX9_bideOut_25, sX9_bideOut_26, sX9_bideOut_27, sX9_bideOut_28, sX9_bideOut_29, sX9_bideOut_32, sX9_bideOut_33, sX9_bideOut_34, sX9_bideOut_35, sX9_bideOut_36, sX9_bideOut_37, sX9_bideOut_38, sX9_bideOut_39, sX9_bideOut_42, sX9_bideOut_43, sX9_bideOut_46, sX9_bideOut_47, sX9_bideOut_48, sX9_bideOut_49, sX9_bideOut_50, sX9_bideOut_51, sX9_bideOut_52, sX9_bideOut_55, sX9_bideOut_58, sX9_bideOut_59, sX9_bideOut_60, sX9_bideOut_63, gfi_0, gfi_s, gfr_0, gfr_s, gfl_0, gfl_s, cki_k, bndi_k, bndl_k, bndr_k, bndv_k, zup_2, zup_1, ↓reduceIte, if_true, if_false, true_or, or_true, not_true_eq_false, not_false_eq_true, isW_cell, w_of2, w_of4, hf, z, w_put3, w_put4, wf_st, wst_st]
    rw [← wl_st (f := fup (fup f (50 + 7 * g) 2) (51 + 7 * g) 0) hw, wlu_id (isW_st hw)]
  · rw [if_neg z, if_neg z]
    by_cases z2 : 0 < f (51 + 7 * g)
    · rw [if_pos z2, if_pos z2]
      simp (disch := first | omega | assumption | ((repeat (first | apply isW_lu | apply isW_st)); assumption)) only [eX9_bideOut, sX9_bideOut_0, sX9_bideOut_1, sX9_bideOut_2, sX9_bideOut_3, sX9_bideOut_6, sX9_bideOut_7, sX9_bideOut_8, sX9_bideOut_9, sX9_bideOut_10, sX9_bideOut_13, sX9_bideOut_14, sX9_bideOut_15, sX9_bideOut_18, sX9_bideOut_19, sX9_bideOut_20, sX9_bideOut_21, sX9_bideOut_22, sX9_bideOut_25, sX9_bideOut_26, sX9_bideOut_27, sX9_bideOut_28, sX9_bideOut_29, sX9_bideOut_32, sX9_bideOut_33, sX9_bideOut_34, sX9_bideOut_35, sX9_bideOut_36, sX9_bideOut_37, sX9_bideOut_38, sX9_bideOut_39, sX9_bideOut_42, sX9_bideOut_43, sX9_bideOut_46, sX9_bideOut_47, sX9_bideOut_48, sX9_bideOut_49, sX9_bideOut_50, sX9_bideOut_51, sX9_bideOut_52, sX9_bideOut_55, sX9_bideOut_58, sX9_bideOut_59, sX9_bideOut_60, sX9_bideOut_63, gfi_0, gfi_s, gfr_0, gfr_s, gfl_0, gfl_s, cki_k, bndi_k, bndl_k, bndr_k, bndv_k, zup_2, zup_1, ↓reduceIte, if_true, if_false, true_or, or_true, not_true_eq_false, not_false_eq_true, isW_cell, w_of2, w_of4, hf, z, w_put2, w_put4, wf_st, wst_st, i32_of, if_neg, if_pos]
      rw [← wl_st (f := fup (fup f (49 + 7 * g) (f (49 + 7 * g) - 1)) (51 + 7 * g) (f (51 + 7 * g) - 1)) hw, wlu_id (isW_st hw)]
    · rw [if_neg z2, if_neg z2]
      have ci := w_comeIn (h := wst h a (fup f (49 + 7 * g) (f (49 + 7 * g) - 1))) (a := a) (g := g) (isW_st hw) hg
      rw [wf_st hw, fup_n (show 0 ≠ 49 + 7 * g by omega), fup_n (show 53 + 7 * g ≠ 49 + 7 * g by omega), fup_n (show 48 + 7 * g ≠ 49 + 7 * g by omega), fup_n (show 3 + (f (48 + 7 * g)).toNat ≠ 49 + 7 * g by omega), wl_st hw, wst_st hw] at ci
      have ci := ci h1 h2 h3 h4 h5 h6 h7 h8
      simp (disch := first | omega | assumption | ((repeat (first | apply isW_lu | apply isW_st)); assumption)) only [eX9_bideOut, sX9_bideOut_0, sX9_bideOut_1, sX9_bideOut_2, sX9_bideOut_3, sX9_bideOut_6, sX9_bideOut_7, sX9_bideOut_8, sX9_bideOut_9, sX9_bideOut_10, sX9_bideOut_13, sX9_bideOut_14, sX9_bideOut_15, sX9_bideOut_18, sX9_bideOut_19, sX9_bideOut_20, sX9_bideOut_21, sX9_bideOut_22, sX9_bideOut_25, sX9_bideOut_26, sX9_bideOut_27, sX9_bideOut_28, sX9_bideOut_29, sX9_bideOut_32, sX9_bideOut_33, sX9_bideOut_34, sX9_bideOut_35, sX9_bideOut_36, sX9_bideOut_37, sX9_bideOut_38, sX9_bideOut_39, sX9_bideOut_42, sX9_bideOut_43, sX9_bideOut_46, sX9_bideOut_47, sX9_bideOut_48, sX9_bideOut_49, sX9_bideOut_50, sX9_bideOut_51, sX9_bideOut_52, sX9_bideOut_55, sX9_bideOut_58, sX9_bideOut_59, sX9_bideOut_60, sX9_bideOut_63, gfi_0, gfi_s, gfr_0, gfr_s, gfl_0, gfl_s, cki_k, bndi_k, bndl_k, bndr_k, bndv_k, zup_2, zup_1, ↓reduceIte, if_true, if_false, true_or, or_true, not_true_eq_false, not_false_eq_true, isW_cell, w_of2, w_of4, hf, z, w_put2, wf_st, wst_st, i32_of, if_neg, if_pos, ci]
/-- bits of those in a state, food of those not lost -/
def bitsN (s : Int) (f : Nat → Int) : Nat → Int
  | 0 => 0
  | n + 1 => q2 (· ||| ·) (bitsN s f n) (if f (50 + 7 * n) = s then q2 qshl 1 n else 0)
def foodN (f : Nat → Int) : Nat → Int
  | 0 => 0
  | n + 1 => i32 (foodN f n + (if f (50 + 7 * n) = 2 then 0 else f (49 + 7 * n)))
theorem w_bits_l {s : Int} {G : Nat} (hw : isW h a) (hG : wf h a 1 = (G : Int)) (hG5 : G ≤ 5) : ∀ (n k : Nat), k + n = G → rn mX9_bitsOf 4 [vr a, vi s, vi (bitsN s (wf h a) k), vi (k : Int)] [] h = some (vi (bitsN s (wf h a) G), h) := by
  have e1 : wf h a (Int.toNat 1) = (G : Int) := hG
  intro n
  induction n with
  | zero =>
    intro k hk
    have : k = G := by omega
    subst this
    rw [sX9_bitsOf_4]
    simp (disch := first | omega | assumption | ((repeat (first | apply isW_lu | apply isW_st)); assumption)) only [eX9_bitsOf, sX9_bitsOf_0, sX9_bitsOf_1, sX9_bitsOf_2, sX9_bitsOf_3, sX9_bitsOf_5, sX9_bitsOf_6, sX9_bitsOf_9, sX9_bitsOf_10, sX9_bitsOf_11, sX9_bitsOf_14, sX9_bitsOf_15, sX9_bitsOf_16, sX9_bitsOf_17, sX9_bitsOf_18, sX9_bitsOf_21, sX9_bitsOf_22, sX9_bitsOf_25, sX9_bitsOf_26, sX9_bitsOf_27, sX9_bitsOf_28, sX9_bitsOf_31, sX9_bitsOf_32, sX9_bitsOf_33, sX9_bitsOf_34, sX9_bitsOf_37, sX9_bitsOf_40, sX9_bitsOf_41, gfi_0, gfi_s, gfr_0, gfr_s, gfl_0, gfl_s, cki_k, bndi_k, bndl_k, bndr_k, bndv_k, zup_2, zup_1, ↓reduceIte, if_true, if_false, true_or, or_true, not_true_eq_false, not_false_eq_true, isW_row, isW_gel, e1, if_pos]
  | succ n ih =>
    intro k hk
    have i := ih (k + 1) (by omega)
    rw [sX9_bitsOf_4]
    by_cases z : wf h a (50 + 7 * k) = s
    · rw [bitsN, if_pos z] at i
      simp (disch := first | omega | assumption | ((repeat (first | apply isW_lu | apply isW_st)); assumption)) only [eX9_bitsOf, sX9_bitsOf_0, sX9_bitsOf_1, sX9_bitsOf_2, sX9_bitsOf_3, sX9_bitsOf_5, sX9_bitsOf_6, sX9_bitsOf_9, sX9_bitsOf_10, sX9_bitsOf_11, sX9_bitsOf_14, sX9_bitsOf_15, sX9_bitsOf_16, sX9_bitsOf_17, sX9_bitsOf_18, sX9_bitsOf_21, sX9_bitsOf_22, sX9_bitsOf_25, sX9_bitsOf_26, sX9_bitsOf_27, sX9_bitsOf_28, sX9_bitsOf_31, sX9_bitsOf_32, sX9_bitsOf_33, sX9_bitsOf_34, sX9_bitsOf_37, sX9_bitsOf_40, sX9_bitsOf_41, gfi_0, gfi_s, gfr_0, gfr_s, gfl_0, gfl_s, cki_k, bndi_k, bndl_k, bndr_k, bndv_k, zup_2, zup_1, ↓reduceIte, if_true, if_false, true_or, or_true, not_true_eq_false, not_false_eq_true, isW_row, isW_gel, isW_cell, w_of3, e1, z, if_pos, if_neg, i32_s]
      exact i
    · rw [bitsN, if_neg z] at i
      simp (disch := first | omega | assumption | ((repeat (first | apply isW_lu | apply isW_st)); assumption)) only [eX9_bitsOf, sX9_bitsOf_0, sX9_bitsOf_1, sX9_bitsOf_2, sX9_bitsOf_3, sX9_bitsOf_5, sX9_bitsOf_6, sX9_bitsOf_9, sX9_bitsOf_10, sX9_bitsOf_11, sX9_bitsOf_14, sX9_bitsOf_15, sX9_bitsOf_16, sX9_bitsOf_17, sX9_bitsOf_18, sX9_bitsOf_21, sX9_bitsOf_22, sX9_bitsOf_25, sX9_bitsOf_26, sX9_bitsOf_27, sX9_bitsOf_28, sX9_bitsOf_31, sX9_bitsOf_32, sX9_bitsOf_33, sX9_bitsOf_34, sX9_bitsOf_37, sX9_bitsOf_40, sX9_bitsOf_41, gfi_0, gfi_s, gfr_0, gfr_s, gfl_0, gfl_s, cki_k, bndi_k, bndl_k, bndr_k, bndv_k, zup_2, zup_1, ↓reduceIte, if_true, if_false, true_or, or_true, not_true_eq_false, not_false_eq_true, isW_row, isW_gel, isW_cell, w_of3, e1, z, if_pos, if_neg, i32_s]
      exact i
theorem w_bitsOf {s : Int} {G : Nat} (hw : isW h a) (hG : wf h a 1 = (G : Int)) (hG5 : G ≤ 5) : cl mX9_bitsOf [vr a, vi s] h = some (vi (bitsN s (wf h a) G), h) := by
  have l := w_bits_l (s := s) hw hG hG5 G 0 (by omega)
  simp only [eX9_bitsOf, sX9_bitsOf_0, sX9_bitsOf_1, sX9_bitsOf_2, sX9_bitsOf_3, sX9_bitsOf_5, sX9_bitsOf_6, sX9_bitsOf_9, sX9_bitsOf_10, sX9_bitsOf_11, sX9_bitsOf_14, sX9_bitsOf_15, sX9_bitsOf_16, sX9_bitsOf_17, sX9_bitsOf_18, sX9_bitsOf_21, sX9_bitsOf_22, sX9_bitsOf_25, sX9_bitsOf_26, sX9_bitsOf_27, sX9_bitsOf_28, sX9_bitsOf_31, sX9_bitsOf_32, sX9_bitsOf_33, sX9_bitsOf_34, sX9_bitsOf_37, sX9_bitsOf_40, sX9_bitsOf_41, gfi_0, gfi_s, gfr_0, gfr_s, gfl_0, gfl_s, cki_k, bndi_k, bndl_k, bndr_k, bndv_k, zup_2, zup_1, ↓reduceIte, if_true, if_false, true_or, or_true, not_true_eq_false, not_false_eq_true]
  exact l
theorem w_food_l {G : Nat} (hw : isW h a) (hG : wf h a 1 = (G : Int)) (hG5 : G ≤ 5) : ∀ (n k : Nat), k + n = G → rn mX9_foodOfAll 4 [vr a, vi (foodN (wf h a) k), vi (k : Int)] [] h = some (vi (foodN (wf h a) G), h) := by
  have e1 : wf h a (Int.toNat 1) = (G : Int) := hG
  intro n
  induction n with
  | zero =>
    intro k hk
    have : k = G := by omega
    subst this
    rw [sX9_foodOfAll_4]
    simp (disch := first | omega | assumption | ((repeat (first | apply isW_lu | apply isW_st)); assumption)) only [eX9_foodOfAll, sX9_foodOfAll_0, sX9_foodOfAll_1, sX9_foodOfAll_2, sX9_foodOfAll_3, sX9_foodOfAll_5, sX9_foodOfAll_6, sX9_foodOfAll_9, sX9_foodOfAll_10, sX9_foodOfAll_11, sX9_foodOfAll_14, sX9_foodOfAll_15, sX9_foodOfAll_16, sX9_foodOfAll_17, sX9_foodOfAll_18, sX9_foodOfAll_21, sX9_foodOfAll_22, sX9_foodOfAll_25, sX9_foodOfAll_26, sX9_foodOfAll_29, sX9_foodOfAll_30, sX9_foodOfAll_31, sX9_foodOfAll_32, sX9_foodOfAll_35, sX9_foodOfAll_36, sX9_foodOfAll_37, sX9_foodOfAll_40, sX9_foodOfAll_43, sX9_foodOfAll_44, gfi_0, gfi_s, gfr_0, gfr_s, gfl_0, gfl_s, cki_k, bndi_k, bndl_k, bndr_k, bndv_k, zup_2, zup_1, ↓reduceIte, if_true, if_false, true_or, or_true, not_true_eq_false, not_false_eq_true, isW_row, isW_gel, e1, if_pos]
  | succ n ih =>
    intro k hk
    have i := ih (k + 1) (by omega)
    rw [sX9_foodOfAll_4]
    by_cases z : wf h a (50 + 7 * k) = 2
    · rw [foodN, if_pos z] at i
      simp (disch := first | omega | assumption | ((repeat (first | apply isW_lu | apply isW_st)); assumption)) only [eX9_foodOfAll, sX9_foodOfAll_0, sX9_foodOfAll_1, sX9_foodOfAll_2, sX9_foodOfAll_3, sX9_foodOfAll_5, sX9_foodOfAll_6, sX9_foodOfAll_9, sX9_foodOfAll_10, sX9_foodOfAll_11, sX9_foodOfAll_14, sX9_foodOfAll_15, sX9_foodOfAll_16, sX9_foodOfAll_17, sX9_foodOfAll_18, sX9_foodOfAll_21, sX9_foodOfAll_22, sX9_foodOfAll_25, sX9_foodOfAll_26, sX9_foodOfAll_29, sX9_foodOfAll_30, sX9_foodOfAll_31, sX9_foodOfAll_32, sX9_foodOfAll_35, sX9_foodOfAll_36, sX9_foodOfAll_37, sX9_foodOfAll_40, sX9_foodOfAll_43, sX9_foodOfAll_44, gfi_0, gfi_s, gfr_0, gfr_s, gfl_0, gfl_s, cki_k, bndi_k, bndl_k, bndr_k, bndv_k, zup_2, zup_1, ↓reduceIte, if_true, if_false, true_or, or_true, not_true_eq_false, not_false_eq_true, isW_row, isW_gel, isW_cell, w_of3, w_of2, e1, z, if_pos, if_neg, i32_s]
      exact i
    · rw [foodN, if_neg z] at i
      simp (disch := first | omega | assumption | ((repeat (first | apply isW_lu | apply isW_st)); assumption)) only [eX9_foodOfAll, sX9_foodOfAll_0, sX9_foodOfAll_1, sX9_foodOfAll_2, sX9_foodOfAll_3, sX9_foodOfAll_5, sX9_foodOfAll_6, sX9_foodOfAll_9, sX9_foodOfAll_10, sX9_foodOfAll_11, sX9_foodOfAll_14, sX9_foodOfAll_15, sX9_foodOfAll_16, sX9_foodOfAll_17, sX9_foodOfAll_18, sX9_foodOfAll_21, sX9_foodOfAll_22, sX9_foodOfAll_25, sX9_foodOfAll_26, sX9_foodOfAll_29, sX9_foodOfAll_30, sX9_foodOfAll_31, sX9_foodOfAll_32, sX9_foodOfAll_35, sX9_foodOfAll_36, sX9_foodOfAll_37, sX9_foodOfAll_40, sX9_foodOfAll_43, sX9_foodOfAll_44, gfi_0, gfi_s, gfr_0, gfr_s, gfl_0, gfl_s, cki_k, bndi_k, bndl_k, bndr_k, bndv_k, zup_2, zup_1, ↓reduceIte, if_true, if_false, true_or, or_true, not_true_eq_false, not_false_eq_true, isW_row, isW_gel, isW_cell, w_of3, w_of2, e1, z, if_pos, if_neg, i32_s]
      exact i
theorem w_foodOfAll {G : Nat} (hw : isW h a) (hG : wf h a 1 = (G : Int)) (hG5 : G ≤ 5) : cl mX9_foodOfAll [vr a] h = some (vi (foodN (wf h a) G), h) := by
  have l := w_food_l hw hG hG5 G 0 (by omega)
  simp only [eX9_foodOfAll, sX9_foodOfAll_0, sX9_foodOfAll_1, sX9_foodOfAll_2, sX9_foodOfAll_3, sX9_foodOfAll_5, sX9_foodOfAll_6, sX9_foodOfAll_9, sX9_foodOfAll_10, sX9_foodOfAll_11, sX9_foodOfAll_14, sX9_foodOfAll_15, sX9_foodOfAll_16, sX9_foodOfAll_17, sX9_foodOfAll_18, sX9_foodOfAll_21, sX9_foodOfAll_22, sX9_foodOfAll_25, sX9_foodOfAll_26, sX9_foodOfAll_29, sX9_foodOfAll_30, sX9_foodOfAll_31, sX9_foodOfAll_32, sX9_foodOfAll_35, sX9_foodOfAll_36, sX9_foodOfAll_37, sX9_foodOfAll_40, sX9_foodOfAll_43, sX9_foodOfAll_44, gfi_0, gfi_s, gfr_0, gfr_s, gfl_0, gfl_s, cki_k, bndi_k, bndl_k, bndr_k, bndv_k, zup_2, zup_1, ↓reduceIte, if_true, if_false, true_or, or_true, not_true_eq_false, not_false_eq_true]
  exact l
end WS
