/-! Text: its cell as a thing -/
def txs (h : zH) (t y : Nat) (L p s kd va : Int) : zH := zup h t (zob 7 [vr y, vi L, vi p, vi s, vi kd, vi va])
section TX
variable {α : Type} {h : zH} {t y : Nat} {L p s kd va v : Int} {f : Nat → Int}
theorem t_id (e : h.2 t = zob 7 [vr y, vi L, vi p, vi s, vi kd, vi va]) : txs h t y L p s kd va = h := zup_id e
theorem t_0 {K : Nat → Option α} : gfr ((txs h t y L p s kd va).2 t) 7 0 K = K y := gfr_at zup_s rfl
theorem t_1 {K : Int → Option α} : gfi ((txs h t y L p s kd va).2 t) 7 1 K = K L := gfi_at zup_s rfl
theorem t_2 {K : Int → Option α} : gfi ((txs h t y L p s kd va).2 t) 7 2 K = K p := gfi_at zup_s rfl
theorem t_3 {K : Int → Option α} : gfi ((txs h t y L p s kd va).2 t) 7 3 K = K s := gfi_at zup_s rfl
theorem t_4 {K : Int → Option α} : gfi ((txs h t y L p s kd va).2 t) 7 4 K = K kd := gfi_at zup_s rfl
theorem t_5 {K : Int → Option α} : gfi ((txs h t y L p s kd va).2 t) 7 5 K = K va := gfi_at zup_s rfl
theorem t_c {x : Option α} : cki ((txs h t y L p s kd va).2 t) 7 x = x := cki_at zup_s
theorem t_u {L' p' s' kd' va' : Int} : zup (txs h t y L p s kd va) t (zob 7 [vr y, vi L', vi p', vi s', vi kd', vi va']) = txs h t y L' p' s' kd' va' := zup_zup
theorem t_w1 {K : zC → Option α} : pfv ((txs h t y L p s kd va).2 t) 7 1 (vi v) K = K (zob 7 [vr y, vi v, vi p, vi s, vi kd, vi va]) := pfv_at zup_s (by simp)
theorem t_w2 {K : zC → Option α} : pfv ((txs h t y L p s kd va).2 t) 7 2 (vi v) K = K (zob 7 [vr y, vi L, vi v, vi s, vi kd, vi va]) := pfv_at zup_s (by simp)
theorem t_w3 {K : zC → Option α} : pfv ((txs h t y L p s kd va).2 t) 7 3 (vi v) K = K (zob 7 [vr y, vi L, vi p, vi v, vi kd, vi va]) := pfv_at zup_s (by simp)
theorem t_w4 {K : zC → Option α} : pfv ((txs h t y L p s kd va).2 t) 7 4 (vi v) K = K (zob 7 [vr y, vi L, vi p, vi s, vi v, vi va]) := pfv_at zup_s (by simp)
theorem t_w5 {K : zC → Option α} : pfv ((txs h t y L p s kd va).2 t) 7 5 (vi v) K = K (zob 7 [vr y, vi L, vi p, vi s, vi kd, vi v]) := pfv_at zup_s (by simp)
theorem T_length : cl mX8_length [vr t] (txs h t y L p s kd va) = some (vi L, txs h t y L p s kd va) := by simp only [eX8_length, sX8_length_0, sX8_length_1, sX8_length_4, ↓t_1]
theorem T_kind : cl mX8_kind [vr t] (txs h t y L p s kd va) = some (vi kd, txs h t y L p s kd va) := by simp only [eX8_kind, sX8_kind_0, sX8_kind_1, sX8_kind_4, ↓t_4]
theorem T_value : cl mX8_value [vr t] (txs h t y L p s kd va) = some (vi va, txs h t y L p s kd va) := by simp only [eX8_value, sX8_value_0, sX8_value_1, sX8_value_4, ↓t_5]
theorem T_cutTo : cl mX8_cutTo [vr t, vi v] (txs h t y L p s kd va) = some (vn, txs h t y v p s kd va) := by simp only [eX8_cutTo, sX8_cutTo_0, sX8_cutTo_1, sX8_cutTo_2, sX8_cutTo_5, ↓t_w1, t_u]
theorem T_rewind : cl mX8_rewind [vr t] (txs h t y L p s kd va) = some (vn, txs h t y L 0 s kd va) := by simp only [eX8_rewind, sX8_rewind_0, sX8_rewind_1, sX8_rewind_2, sX8_rewind_5, ↓t_w2, t_u]
theorem T_faultOf {w : Int} (h0 : 0 ≤ s) (h1 : s ≤ 400) (h2 : 0 ≤ w) (h3 : w ≤ 7) : cl mX8_faultOf [vr t, vi w] (txs h t y L p s kd va) = some (vi (1 + 8 * s + w), txs h t y L p s kd va) := by
  simp (disch := omega) only [eX8_faultOf, sX8_faultOf_0, sX8_faultOf_1, sX8_faultOf_3, sX8_faultOf_4, sX8_faultOf_7, sX8_faultOf_8, sX8_faultOf_9, sX8_faultOf_10, sX8_faultOf_11, ↓t_3, i32_of]
theorem T_digit {x : Int} : cl mX8_isDigit [vi x] h = some (vi (if 48 ≤ x ∧ x ≤ 57 then 1 else 0), h) := by
  by_cases q1 : x < 48
  · rw [if_neg (by omega)]
    simp only [eX8_isDigit, sX8_isDigit_0, sX8_isDigit_1, sX8_isDigit_3, sX8_isDigit_6, sX8_isDigit_7, sX8_isDigit_9, sX8_isDigit_12, sX8_isDigit_13, sX8_isDigit_16, sX8_isDigit_17, gfi_0, gfi_s, gfr_0, gfr_s, gfl_0, gfl_s, cki_k, bndi_k, bndl_k, bndr_k, bndv_k, zup_2, zup_1, ↓reduceIte, if_true, if_false, true_or, or_true, not_true_eq_false, not_false_eq_true, ↓if_pos q1]
  · by_cases q2 : 57 < x
    · rw [if_neg (by omega)]
      simp only [eX8_isDigit, sX8_isDigit_0, sX8_isDigit_1, sX8_isDigit_3, sX8_isDigit_6, sX8_isDigit_7, sX8_isDigit_9, sX8_isDigit_12, sX8_isDigit_13, sX8_isDigit_16, sX8_isDigit_17, gfi_0, gfi_s, gfr_0, gfr_s, gfl_0, gfl_s, cki_k, bndi_k, bndl_k, bndr_k, bndv_k, zup_2, zup_1, ↓reduceIte, if_true, if_false, true_or, or_true, not_true_eq_false, not_false_eq_true, ↓if_neg q1, ↓if_pos q2]
    · rw [if_pos (by omega)]
      simp only [eX8_isDigit, sX8_isDigit_0, sX8_isDigit_1, sX8_isDigit_3, sX8_isDigit_6, sX8_isDigit_7, sX8_isDigit_9, sX8_isDigit_12, sX8_isDigit_13, sX8_isDigit_16, sX8_isDigit_17, gfi_0, gfi_s, gfr_0, gfr_s, gfl_0, gfl_s, cki_k, bndi_k, bndl_k, bndr_k, bndv_k, zup_2, zup_1, ↓reduceIte, if_true, if_false, true_or, or_true, not_true_eq_false, not_false_eq_true, ↓if_neg q1, ↓if_neg q2]
theorem T_letter {x : Int} : cl mX8_isLetter [vi x] h = some (vi (if 97 ≤ x ∧ x ≤ 122 then 1 else 0), h) := by
  by_cases q1 : x < 97
  · rw [if_neg (by omega)]
    simp only [eX8_isLetter, sX8_isLetter_0, sX8_isLetter_1, sX8_isLetter_3, sX8_isLetter_6, sX8_isLetter_7, sX8_isLetter_9, sX8_isLetter_12, sX8_isLetter_13, sX8_isLetter_16, sX8_isLetter_17, gfi_0, gfi_s, gfr_0, gfr_s, gfl_0, gfl_s, cki_k, bndi_k, bndl_k, bndr_k, bndv_k, zup_2, zup_1, ↓reduceIte, if_true, if_false, true_or, or_true, not_true_eq_false, not_false_eq_true, ↓if_pos q1]
  · by_cases q2 : 122 < x
    · rw [if_neg (by omega)]
      simp only [eX8_isLetter, sX8_isLetter_0, sX8_isLetter_1, sX8_isLetter_3, sX8_isLetter_6, sX8_isLetter_7, sX8_isLetter_9, sX8_isLetter_12, sX8_isLetter_13, sX8_isLetter_16, sX8_isLetter_17, gfi_0, gfi_s, gfr_0, gfr_s, gfl_0, gfl_s, cki_k, bndi_k, bndl_k, bndr_k, bndv_k, zup_2, zup_1, ↓reduceIte, if_true, if_false, true_or, or_true, not_true_eq_false, not_false_eq_true, ↓if_neg q1, ↓if_pos q2]
    · rw [if_pos (by omega)]
      simp only [eX8_isLetter, sX8_isLetter_0, sX8_isLetter_1, sX8_isLetter_3, sX8_isLetter_6, sX8_isLetter_7, sX8_isLetter_9, sX8_isLetter_12, sX8_isLetter_13, sX8_isLetter_16, sX8_isLetter_17, gfi_0, gfi_s, gfr_0, gfr_s, gfl_0, gfl_s, cki_k, bndi_k, bndl_k, bndr_k, bndv_k, zup_2, zup_1, ↓reduceIte, if_true, if_false, true_or, or_true, not_true_eq_false, not_false_eq_true, ↓if_neg q1, ↓if_neg q2]
/-- the byte at a place -/
def byt (f : Nat → Int) (L i : Int) : Int := if 0 ≤ i ∧ i < L then f i.toNat else -1
theorem t_y (hy : h.2 y = zar 1 400 f) (ne : y ≠ t) : (txs h t y L p s kd va).2 y = zar 1 400 f := by rw [txs, zup_n ne]; exact hy
theorem T_byte {i : Int} (hy : h.2 y = zar 1 400 f) (ne : y ≠ t) (hL : L ≤ 400) : cl mX8_byteAt [vr t, vi i] (txs h t y L p s kd va) = some (vi (byt f L i), txs h t y L p s kd va) := by
  have y1 := t_y (L := L) (p := p) (s := s) (kd := kd) (va := va) hy ne
  unfold byt
  by_cases q1 : i < 0
  · rw [if_neg (by omega)]
    simp only [eX8_byteAt, sX8_byteAt_0, sX8_byteAt_1, sX8_byteAt_4, sX8_byteAt_5, sX8_byteAt_6, sX8_byteAt_9, sX8_byteAt_12, sX8_byteAt_13, sX8_byteAt_14, sX8_byteAt_17, sX8_byteAt_18, sX8_byteAt_21, sX8_byteAt_22, sX8_byteAt_25, sX8_byteAt_26, sX8_byteAt_27, sX8_byteAt_30, sX8_byteAt_31, ↓if_pos q1]
  · by_cases q2 : L ≤ i
    · rw [if_neg (by omega)]
      simp only [eX8_byteAt, sX8_byteAt_0, sX8_byteAt_1, sX8_byteAt_4, sX8_byteAt_5, sX8_byteAt_6, sX8_byteAt_9, sX8_byteAt_12, sX8_byteAt_13, sX8_byteAt_14, sX8_byteAt_17, sX8_byteAt_18, sX8_byteAt_21, sX8_byteAt_22, sX8_byteAt_25, sX8_byteAt_26, sX8_byteAt_27, sX8_byteAt_30, sX8_byteAt_31, ↓if_neg q1, ↓t_1, ↓if_pos q2]
    · have q3 : ¬ ((400 : Nat) : Int) ≤ i := by omega
      rw [if_pos (by omega)]
      simp (disch := omega) only [eX8_byteAt, sX8_byteAt_0, sX8_byteAt_1, sX8_byteAt_4, sX8_byteAt_5, sX8_byteAt_6, sX8_byteAt_9, sX8_byteAt_12, sX8_byteAt_13, sX8_byteAt_14, sX8_byteAt_17, sX8_byteAt_18, sX8_byteAt_21, sX8_byteAt_22, sX8_byteAt_25, sX8_byteAt_26, sX8_byteAt_27, sX8_byteAt_30, sX8_byteAt_31, ↓if_neg q1, ↓t_1, ↓if_neg q2, ↓t_0, ↓gle_at y1, ↓if_neg q3, ↓gel_at y1]
end TX
