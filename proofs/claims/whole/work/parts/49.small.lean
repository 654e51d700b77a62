/-! World.clear; Draws; Notes -/
def wz : Nat → Int := fun j => if 3 ≤ j ∧ j < 7 then (j : Int) - 3 else 0
theorem wz_eq : fup (fup (fup (fup (fun _ => 0) 3 0) 4 1) 5 2) 6 3 = wz := by
  funext j
  unfold wz
  by_cases h3 : j = 3
  · subst h3; rfl
  by_cases h4 : j = 4
  · subst h4; rfl
  by_cases h5 : j = 5
  · subst h5; rfl
  by_cases h6 : j = 6
  · subst h6; rfl
  rw [fup_n h6, fup_n h5, fup_n h4, fup_n h3, if_neg (by omega)]
theorem w_clear_l {a : Nat} : ∀ (n i : Nat) (H : zH), i + n = 82 → isW H a → cn 82 (wf H a) → (∀ j, j < i → wf H a j = 0) → rn mX9_clear 2 [vr a, vi (i : Int)] [] H = rn mX9_clear 24 [vr a, vi 82] [] (wst H a (fun _ => 0)) := by
  intro n
  induction n with
  | zero =>
    intro i H hi hw hc hz
    have e : i = 82 := by omega
    subst e
    have e0 : wf H a = fun _ => 0 := by
      funext j
      by_cases q : j < 82
      · exact hz j q
      · exact hc j (by omega)
    rw [← e0, wst_id hw]
    rw [sX9_clear_2]
    have e8 : ((82 : Nat) : Int) = 82 := rfl
    simp (disch := first | omega | assumption) only [sX9_clear_3, sX9_clear_4, sX9_clear_7, sX9_clear_8, ↓isW_row, ↓isW_gle, ↓if_pos, e8]
  | succ n ih =>
    intro i H hi hw hc hz
    have is : i32 ((i : Int) + 1) = ((i + 1 : Nat) : Int) := i32_s i (by omega)
    have I := ih (i + 1) (wst H a (fup (wf H a) i 0)) (by omega) (isW_st hw) (by rw [wf_st hw]; exact cn_up hc (by omega)) (fun j hj => by
      rw [wf_st hw]
      by_cases q : j = i
      · subst q; exact fup_s
      · rw [fup_n q]; exact hz j (by omega))
    rw [wst_st hw] at I
    rw [sX9_clear_2]
    have e0 : Int.toNat (i : Int) = i := Int.toNat_natCast i
    simp (disch := first | omega | assumption) only [sX9_clear_3, sX9_clear_4, sX9_clear_7, sX9_clear_8, sX9_clear_11, sX9_clear_12, sX9_clear_15, sX9_clear_16, sX9_clear_17, sX9_clear_18, sX9_clear_21, ↓isW_row, ↓isW_gle, ↓if_neg, ↓isW_sel, e0, is]
    exact I
theorem w_clear {h : zH} {a : Nat} (hw : isW h a) (hc : cn 82 (wf h a)) : cl mX9_clear [vr a] h = some (vn, wlu (wst h a wz) a (-1)) := by
  have l := w_clear_l 82 0 h (by omega) hw hc (fun j hj => by omega)
  rw [show (((0 : Nat) : Int)) = 0 from rfl] at l
  have hw0 := isW_st (f := fun _ => 0) hw
  have e3 : Int.toNat 3 = 3 := rfl
  have e4 : Int.toNat 4 = 4 := rfl
  have e5 : Int.toNat 5 = 5 := rfl
  have e6 : Int.toNat 6 = 6 := rfl
  have s0 := w_set (i := 3) (v := 0) hw0 (by omega) (by omega)
  rw [wf_st hw, wst_st hw, e3] at s0
  have hw1 := isW_st (f := fup (fun _ => 0) 3 0) hw
  have s1 := w_set (i := 4) (v := 1) hw1 (by omega) (by omega)
  rw [wf_st hw, wst_st hw, e4] at s1
  have hw2 := isW_st (f := fup (fup (fun _ => 0) 3 0) 4 1) hw
  have s2 := w_set (i := 5) (v := 2) hw2 (by omega) (by omega)
  rw [wf_st hw, wst_st hw, e5] at s2
  have hw3 := isW_st (f := fup (fup (fup (fun _ => 0) 3 0) 4 1) 5 2) hw
  have s3 := w_set (i := 6) (v := 3) hw3 (by omega) (by omega)
  rw [wf_st hw, wst_st hw, e6, wz_eq] at s3
  have hw4 := isW_st (f := wz) hw
  have j0 : i32 (3 + 0) = 3 := i32_of (by omega) (by omega)
  have j1 : i32 (3 + 1) = 4 := i32_of (by omega) (by omega)
  have j2 : i32 (3 + 2) = 5 := i32_of (by omega) (by omega)
  have j3 : i32 (3 + 3) = 6 := i32_of (by omega) (by omega)
  have k0 : i32 (0 + 1) = 1 := i32_of (by omega) (by omega)
  have k1 : i32 (1 + 1) = 2 := i32_of (by omega) (by omega)
  have k2 : i32 (2 + 1) = 3 := i32_of (by omega) (by omega)
  rw [eX9_clear, sX9_clear_0, sX9_clear_1, l]
  simp (disch := first | omega | assumption) only [sX9_clear_24, sX9_clear_25, sX9_clear_26, sX9_clear_27, sX9_clear_28, sX9_clear_31, sX9_clear_32, sX9_clear_33, sX9_clear_34, sX9_clear_35, sX9_clear_36, sX9_clear_39, sX9_clear_42, sX9_clear_45, sX9_clear_46, sX9_clear_47, sX9_clear_50, ↓if_pos, ↓if_neg, ↓isW_cell hw0, ↓isW_cell hw1, ↓isW_cell hw2, ↓isW_cell hw3, ↓bndv_at s0, ↓bndv_at s1, ↓bndv_at s2, ↓bndv_at s3, j0, j1, j2, j3, k0, k1, k2, ↓isW_plu hw4, zup_lu]
/-! Notes -/
section NO
variable {h : zH} {p s g c : Nat} {z : Int} {fs fg fc : Nat → Int}
theorem N_size (hp : h.2 p = zob 3 [vr s, vr g, vr c, vi z]) : cl mX4_size [vr p] h = some (vi z, h) := by
  simp only [eX4_size, sX4_size_0, sX4_size_1, sX4_size_4, gfi_0, gfi_s, gfr_0, gfr_s, gfl_0, gfl_s, cki_k, bndi_k, bndl_k, bndr_k, bndv_k, zup_2, zup_1, ↓reduceIte, if_true, if_false, true_or, or_true, not_true_eq_false, not_false_eq_true, hp]
theorem N_isFull (hp : h.2 p = zob 3 [vr s, vr g, vr c, vi z]) : cl mX4_isFull [vr p] h = some (vi (if z < 10 then 0 else 1), h) := by
  by_cases q : z < 10
  · rw [if_pos q]
    simp only [eX4_isFull, sX4_isFull_0, sX4_isFull_1, sX4_isFull_4, sX4_isFull_6, sX4_isFull_9, sX4_isFull_10, sX4_isFull_13, sX4_isFull_14, gfi_0, gfi_s, gfr_0, gfr_s, gfl_0, gfl_s, cki_k, bndi_k, bndl_k, bndr_k, bndv_k, zup_2, zup_1, ↓reduceIte, if_true, if_false, true_or, or_true, not_true_eq_false, not_false_eq_true, hp, if_pos q]
  · rw [if_neg q]
    simp only [eX4_isFull, sX4_isFull_0, sX4_isFull_1, sX4_isFull_4, sX4_isFull_6, sX4_isFull_9, sX4_isFull_10, sX4_isFull_13, sX4_isFull_14, gfi_0, gfi_s, gfr_0, gfr_s, gfl_0, gfl_s, cki_k, bndi_k, bndl_k, bndr_k, bndv_k, zup_2, zup_1, ↓reduceIte, if_true, if_false, true_or, or_true, not_true_eq_false, not_false_eq_true, hp, if_neg q]
theorem N_clear (hp : h.2 p = zob 3 [vr s, vr g, vr c, vi z]) : cl mX4_clear [vr p] h = some (vn, zup h p (zob 3 [vr s, vr g, vr c, vi 0])) := by
  simp (disch := simp) only [eX4_clear, sX4_clear_0, sX4_clear_1, sX4_clear_2, sX4_clear_5, gfi_0, gfi_s, gfr_0, gfr_s, gfl_0, gfl_s, cki_k, bndi_k, bndl_k, bndr_k, bndv_k, zup_2, zup_1, ↓reduceIte, if_true, if_false, true_or, or_true, not_true_eq_false, not_false_eq_true, ↓pfv_at hp]
  rfl
end NO
