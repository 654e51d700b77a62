/-! the model's geometry: the class's functions -/
theorem six {s : Int} (h1 : 1 ≤ s) (h2 : s ≤ 6) : s = 1 ∨ s = 2 ∨ s = 3 ∨ s = 4 ∨ s = 5 ∨ s = 6 := by omega
theorem four {s : Int} (h1 : 0 ≤ s) (h2 : s ≤ 3) : s = 0 ∨ s = 1 ∨ s = 2 ∨ s = 3 := by omega
theorem wnx_m {s c fa : Int} (h1 : 1 ≤ s) (h2 : s ≤ 6) (h3 : 0 ≤ c) (h4 : c < s * s) (h5 : 0 ≤ fa) (h6 : fa ≤ 3) : wnx s c fa = if wmg s c fa = 0 then -1 else if fa = 0 then c - s else if fa = 1 then c + 1 else if fa = 2 then c + s else c - 1 := by
  rcases four h5 h6 with rfl | rfl | rfl | rfl
  · rcases six h1 h2 with rfl | rfl | rfl | rfl | rfl | rfl <;> simp only [wnx, wmg, ↓reduceIte] <;> (repeat split) <;> omega
  · rcases six h1 h2 with rfl | rfl | rfl | rfl | rfl | rfl <;> simp (disch := omega) only [wnx, wmg, ↓reduceIte, if_neg] <;> (repeat split) <;> omega
  · rcases six h1 h2 with rfl | rfl | rfl | rfl | rfl | rfl <;> simp (disch := omega) only [wnx, wmg, ↓reduceIte, if_neg] <;> (repeat split) <;> omega
  · rcases six h1 h2 with rfl | rfl | rfl | rfl | rfl | rfl <;> simp (disch := omega) only [wnx, wmg, ↓reduceIte, if_neg] <;> (repeat split) <;> omega
section M2
variable {A F : Nat → Nat → Int} {E : zE} {c fa : Int}
theorem m_margin (h1 : 1 ≤ A 113 1) (h2 : A 113 1 ≤ 6) (h3 : 0 ≤ c) (h4 : c ≤ 35) (h5 : 0 ≤ fa) (h6 : fa ≤ 3) : cl mX11_marginOf [vr 103, vi c, vi fa] (HP A F E) = some (vi (wmg (A 113 1) c fa), HP A F E) := by
  have m := emb (c := c) (s := A 113 1) (by omega)
  have d := edb (c := c) (s := A 113 1) (by omega) h3
  rcases four h5 h6 with rfl | rfl | rfl | rfl <;> simp (disch := omega) only [eX11_marginOf, sX11_marginOf_0, sX11_marginOf_1, sX11_marginOf_4, sX11_marginOf_5, sX11_marginOf_6, sX11_marginOf_7, sX11_marginOf_8, sX11_marginOf_36, sX11_marginOf_37, sX11_marginOf_38, sX11_marginOf_39, sX11_marginOf_40, sX11_marginOf_41, sX11_marginOf_42, sX11_marginOf_43, sX11_marginOf_44, sX11_marginOf_45, sX11_marginOf_46, sX11_marginOf_47, sX11_marginOf_48, sX11_marginOf_49, sX11_marginOf_50, sX11_marginOf_51, sX11_marginOf_52, sX11_marginOf_53, sX11_marginOf_54, sX11_marginOf_55, sX11_marginOf_56, sX11_marginOf_57, sX11_marginOf_58, sX11_marginOf_59, ↓hf103_20, ↓hg113, ↓if_pos, ↓if_neg, ↓reduceIte, true_or, or_true, not_true_eq_false, not_false_eq_true, Int.toNat_natCast, i32_of, aup_s, aup_n, fup_s, fup_n, aup_aup, fup_fup, Nat.reduceAdd, Nat.reduceMul, Int.reduceToNat, Int.reduceAdd, Int.reduceSub, Int.reduceMul, Int.reduceNeg, q_rem, q_div, swc, wmg]
theorem m_next (h1 : 1 ≤ A 113 1) (h2 : A 113 1 ≤ 6) (h3 : 0 ≤ c) (h4 : c < A 113 1 * A 113 1) (h5 : 0 ≤ fa) (h6 : fa ≤ 3) : cl mX11_nextOf [vr 103, vi c, vi fa] (HP A F E) = some (vi (wnx (A 113 1) c fa), HP A F E) := by
  have q := sq_b (s := A 113 1) (by omega) h2
  have mm := m_margin (A := A) (F := F) (E := E) h1 h2 h3 (by omega) h5 h6
  rw [wnx_m h1 h2 h3 h4 h5 h6]
  by_cases z : wmg (A 113 1) c fa = 0
  · rw [if_pos z]
    simp (disch := omega) only [eX11_nextOf, sX11_nextOf_0, sX11_nextOf_1, sX11_nextOf_2, sX11_nextOf_3, sX11_nextOf_6, sX11_nextOf_9, sX11_nextOf_10, sX11_nextOf_11, sX11_nextOf_12, sX11_nextOf_15, sX11_nextOf_16, sX11_nextOf_17, sX11_nextOf_20, sX11_nextOf_21, sX11_nextOf_22, sX11_nextOf_23, sX11_nextOf_26, sX11_nextOf_27, sX11_nextOf_28, sX11_nextOf_31, sX11_nextOf_32, sX11_nextOf_33, sX11_nextOf_34, sX11_nextOf_37, sX11_nextOf_38, sX11_nextOf_39, sX11_nextOf_42, sX11_nextOf_43, sX11_nextOf_44, sX11_nextOf_47, sX11_nextOf_48, sX11_nextOf_49, sX11_nextOf_50, sX11_nextOf_53, sX11_nextOf_54, sX11_nextOf_55, sX11_nextOf_56, ↓hk103, ↓bndi_at mm, ↓if_pos, ↓if_neg, ↓reduceIte, true_or, or_true, not_true_eq_false, not_false_eq_true, Int.toNat_natCast, i32_of, aup_s, aup_n, fup_s, fup_n, aup_aup, fup_fup, Nat.reduceAdd, Nat.reduceMul, Int.reduceToNat, Int.reduceAdd, Int.reduceSub, Int.reduceMul, Int.reduceNeg, z]
  · rw [if_neg z]
    rcases four h5 h6 with rfl | rfl | rfl | rfl <;> simp (disch := omega) only [eX11_nextOf, sX11_nextOf_0, sX11_nextOf_1, sX11_nextOf_2, sX11_nextOf_3, sX11_nextOf_6, sX11_nextOf_9, sX11_nextOf_10, sX11_nextOf_11, sX11_nextOf_12, sX11_nextOf_15, sX11_nextOf_16, sX11_nextOf_17, sX11_nextOf_20, sX11_nextOf_21, sX11_nextOf_22, sX11_nextOf_23, sX11_nextOf_26, sX11_nextOf_27, sX11_nextOf_28, sX11_nextOf_31, sX11_nextOf_32, sX11_nextOf_33, sX11_nextOf_34, sX11_nextOf_37, sX11_nextOf_38, sX11_nextOf_39, sX11_nextOf_42, sX11_nextOf_43, sX11_nextOf_44, sX11_nextOf_47, sX11_nextOf_48, sX11_nextOf_49, sX11_nextOf_50, sX11_nextOf_53, sX11_nextOf_54, sX11_nextOf_55, sX11_nextOf_56, ↓hk103, ↓bndi_at mm, ↓hf103_20, ↓hg113, ↓if_pos, ↓if_neg, ↓reduceIte, true_or, or_true, not_true_eq_false, not_false_eq_true, Int.toNat_natCast, i32_of, aup_s, aup_n, fup_s, fup_n, aup_aup, fup_fup, Nat.reduceAdd, Nat.reduceMul, Int.reduceToNat, Int.reduceAdd, Int.reduceSub, Int.reduceMul, Int.reduceNeg, z]
theorem m_cellAt {ed p : Int} (h1 : 1 ≤ A 113 1) (h2 : A 113 1 ≤ 6) (h3 : 0 ≤ p) (h4 : p < A 113 1) (h5 : 0 ≤ ed) (h6 : ed ≤ 3) : cl mX11_cellAt [vr 103, vi ed, vi p] (HP A F E) = some (vi (wca (A 113 1) ed p), HP A F E) := by
  have q := mul36 (a := A 113 1) (b := p) (by omega) h2 (by omega) (by omega)
  have q' := mul36 (a := A 113 1) (b := A 113 1 - 1) (by omega) h2 (by omega) (by omega)
  have c1 : p * A 113 1 = A 113 1 * p := Int.mul_comm _ _
  have c2 : (A 113 1 - 1) * A 113 1 = A 113 1 * (A 113 1 - 1) := Int.mul_comm _ _
  rcases four h5 h6 with rfl | rfl | rfl | rfl <;> simp (disch := omega) only [eX11_cellAt, sX11_cellAt_0, sX11_cellAt_1, sX11_cellAt_4, sX11_cellAt_5, sX11_cellAt_6, sX11_cellAt_7, sX11_cellAt_8, sX11_cellAt_36, sX11_cellAt_37, sX11_cellAt_38, sX11_cellAt_39, sX11_cellAt_40, sX11_cellAt_41, sX11_cellAt_42, sX11_cellAt_43, sX11_cellAt_44, sX11_cellAt_45, sX11_cellAt_46, sX11_cellAt_47, sX11_cellAt_48, sX11_cellAt_49, sX11_cellAt_50, sX11_cellAt_51, sX11_cellAt_52, sX11_cellAt_53, sX11_cellAt_54, sX11_cellAt_55, sX11_cellAt_56, sX11_cellAt_57, ↓hf103_20, ↓hg113, ↓if_pos, ↓if_neg, ↓reduceIte, true_or, or_true, not_true_eq_false, not_false_eq_true, Int.toNat_natCast, i32_of, aup_s, aup_n, fup_s, fup_n, aup_aup, fup_fup, Nat.reduceAdd, Nat.reduceMul, Int.reduceToNat, Int.reduceAdd, Int.reduceSub, Int.reduceMul, Int.reduceNeg, swc, wca, c1, c2]
theorem m_place (h1 : 1 ≤ A 113 1) (h2 : A 113 1 ≤ 6) (h3 : 0 ≤ c) (h4 : c ≤ 35) (h5 : 0 ≤ fa) (h6 : fa ≤ 3) : cl mX11_placeAlong [vr 103, vi c, vi fa] (HP A F E) = some (vi (wpl (A 113 1) c fa), HP A F E) := by
  rcases four h5 h6 with rfl | rfl | rfl | rfl <;> simp (disch := omega) only [eX11_placeAlong, sX11_placeAlong_0, sX11_placeAlong_1, sX11_placeAlong_2, sX11_placeAlong_3, sX11_placeAlong_6, sX11_placeAlong_7, sX11_placeAlong_8, sX11_placeAlong_11, sX11_placeAlong_12, sX11_placeAlong_13, sX11_placeAlong_14, sX11_placeAlong_17, sX11_placeAlong_18, sX11_placeAlong_19, sX11_placeAlong_22, sX11_placeAlong_23, sX11_placeAlong_24, sX11_placeAlong_25, ↓hf103_20, ↓hg113, ↓if_pos, ↓if_neg, ↓reduceIte, true_or, or_true, not_true_eq_false, not_false_eq_true, Int.toNat_natCast, i32_of, aup_s, aup_n, fup_s, fup_n, aup_aup, fup_fup, Nat.reduceAdd, Nat.reduceMul, Int.reduceToNat, Int.reduceAdd, Int.reduceSub, Int.reduceMul, Int.reduceNeg, q_rem, q_div, wpl, Int.reduceMod]
/-- bits and food: the class's functions over what is said, shifted -/
theorem m_bits_l {s : Int} {G : Nat} (hG : A 113 2 = (G : Int)) (hG5 : G ≤ 5) : ∀ (n k : Nat), k + n = G → rn mX11_onesWhoAre 4 [vr 103, vi s, vi (bitsN s (fun j => A 113 (j - 36)) k), vi (k : Int)] [] (HP A F E) = some (vi (bitsN s (fun j => A 113 (j - 36)) G), HP A F E) := by
  intro n
  induction n with
  | zero =>
    intro k hk
    have : k = G := by omega
    subst this
    rw [sX11_onesWhoAre_4]
    simp (disch := omega) only [eX11_onesWhoAre, sX11_onesWhoAre_0, sX11_onesWhoAre_1, sX11_onesWhoAre_2, sX11_onesWhoAre_3, sX11_onesWhoAre_5, sX11_onesWhoAre_6, sX11_onesWhoAre_9, sX11_onesWhoAre_10, sX11_onesWhoAre_11, sX11_onesWhoAre_14, sX11_onesWhoAre_15, sX11_onesWhoAre_16, sX11_onesWhoAre_17, sX11_onesWhoAre_20, sX11_onesWhoAre_21, sX11_onesWhoAre_24, sX11_onesWhoAre_25, sX11_onesWhoAre_26, sX11_onesWhoAre_27, sX11_onesWhoAre_30, sX11_onesWhoAre_31, sX11_onesWhoAre_32, sX11_onesWhoAre_33, sX11_onesWhoAre_36, sX11_onesWhoAre_39, sX11_onesWhoAre_40, ↓hf103_20, ↓hg113, ↓if_pos, ↓if_neg, ↓reduceIte, true_or, or_true, not_true_eq_false, not_false_eq_true, Int.toNat_natCast, i32_of, aup_s, aup_n, fup_s, fup_n, aup_aup, fup_fup, Nat.reduceAdd, Nat.reduceMul, Int.reduceToNat, Int.reduceAdd, Int.reduceSub, Int.reduceMul, Int.reduceNeg, hG]
  | succ n ih =>
    intro k hk
    have i := ih (k + 1) (by omega)
    have st := m_statusOf (A := A) (F := F) (E := E) (g := k) (by omega)
    rw [sX11_onesWhoAre_4]
    by_cases z : A 113 (14 + 7 * k) = s
    · rw [bitsN, if_pos (by rw [show 50 + 7 * k - 36 = 14 + 7 * k by omega]; exact z)] at i
      simp (disch := omega) only [eX11_onesWhoAre, sX11_onesWhoAre_0, sX11_onesWhoAre_1, sX11_onesWhoAre_2, sX11_onesWhoAre_3, sX11_onesWhoAre_5, sX11_onesWhoAre_6, sX11_onesWhoAre_9, sX11_onesWhoAre_10, sX11_onesWhoAre_11, sX11_onesWhoAre_14, sX11_onesWhoAre_15, sX11_onesWhoAre_16, sX11_onesWhoAre_17, sX11_onesWhoAre_20, sX11_onesWhoAre_21, sX11_onesWhoAre_24, sX11_onesWhoAre_25, sX11_onesWhoAre_26, sX11_onesWhoAre_27, sX11_onesWhoAre_30, sX11_onesWhoAre_31, sX11_onesWhoAre_32, sX11_onesWhoAre_33, sX11_onesWhoAre_36, sX11_onesWhoAre_39, sX11_onesWhoAre_40, ↓hf103_20, ↓hg113, ↓if_pos, ↓if_neg, ↓reduceIte, true_or, or_true, not_true_eq_false, not_false_eq_true, Int.toNat_natCast, i32_of, aup_s, aup_n, fup_s, fup_n, aup_aup, fup_fup, Nat.reduceAdd, Nat.reduceMul, Int.reduceToNat, Int.reduceAdd, Int.reduceSub, Int.reduceMul, Int.reduceNeg, hG, ↓hk103, ↓bndi_at st, z, i32_s]
      exact i
    · rw [bitsN, if_neg (by rw [show 50 + 7 * k - 36 = 14 + 7 * k by omega]; exact z)] at i
      simp (disch := omega) only [eX11_onesWhoAre, sX11_onesWhoAre_0, sX11_onesWhoAre_1, sX11_onesWhoAre_2, sX11_onesWhoAre_3, sX11_onesWhoAre_5, sX11_onesWhoAre_6, sX11_onesWhoAre_9, sX11_onesWhoAre_10, sX11_onesWhoAre_11, sX11_onesWhoAre_14, sX11_onesWhoAre_15, sX11_onesWhoAre_16, sX11_onesWhoAre_17, sX11_onesWhoAre_20, sX11_onesWhoAre_21, sX11_onesWhoAre_24, sX11_onesWhoAre_25, sX11_onesWhoAre_26, sX11_onesWhoAre_27, sX11_onesWhoAre_30, sX11_onesWhoAre_31, sX11_onesWhoAre_32, sX11_onesWhoAre_33, sX11_onesWhoAre_36, sX11_onesWhoAre_39, sX11_onesWhoAre_40, ↓hf103_20, ↓hg113, ↓if_pos, ↓if_neg, ↓reduceIte, true_or, or_true, not_true_eq_false, not_false_eq_true, Int.toNat_natCast, i32_of, aup_s, aup_n, fup_s, fup_n, aup_aup, fup_fup, Nat.reduceAdd, Nat.reduceMul, Int.reduceToNat, Int.reduceAdd, Int.reduceSub, Int.reduceMul, Int.reduceNeg, hG, ↓hk103, ↓bndi_at st, z, i32_s]
      exact i
theorem m_bits {s : Int} {G : Nat} (hG : A 113 2 = (G : Int)) (hG5 : G ≤ 5) : cl mX11_onesWhoAre [vr 103, vi s] (HP A F E) = some (vi (bitsN s (fun j => A 113 (j - 36)) G), HP A F E) := by
  have l := m_bits_l (s := s) (F := F) (E := E) hG hG5 G 0 (by omega)
  rw [← l]
  simp only [eX11_onesWhoAre, sX11_onesWhoAre_0, sX11_onesWhoAre_1, sX11_onesWhoAre_2, sX11_onesWhoAre_3, sX11_onesWhoAre_5, sX11_onesWhoAre_6, sX11_onesWhoAre_9, sX11_onesWhoAre_10, sX11_onesWhoAre_11, sX11_onesWhoAre_14, sX11_onesWhoAre_15, sX11_onesWhoAre_16, sX11_onesWhoAre_17, sX11_onesWhoAre_20, sX11_onesWhoAre_21, sX11_onesWhoAre_24, sX11_onesWhoAre_25, sX11_onesWhoAre_26, sX11_onesWhoAre_27, sX11_onesWhoAre_30, sX11_onesWhoAre_31, sX11_onesWhoAre_32, sX11_onesWhoAre_33, sX11_onesWhoAre_36, sX11_onesWhoAre_39, sX11_onesWhoAre_40]
  rfl
theorem m_food_l {G : Nat} (hG : A 113 2 = (G : Int)) (hG5 : G ≤ 5) : ∀ (n k : Nat), k + n = G → rn mX11_foodAll 4 [vr 103, vi (foodN (fun j => A 113 (j - 36)) k), vi (k : Int)] [] (HP A F E) = some (vi (foodN (fun j => A 113 (j - 36)) G), HP A F E) := by
  intro n
  induction n with
  | zero =>
    intro k hk
    have : k = G := by omega
    subst this
    rw [sX11_foodAll_4]
    simp (disch := omega) only [eX11_foodAll, sX11_foodAll_0, sX11_foodAll_1, sX11_foodAll_2, sX11_foodAll_3, sX11_foodAll_5, sX11_foodAll_6, sX11_foodAll_9, sX11_foodAll_10, sX11_foodAll_11, sX11_foodAll_14, sX11_foodAll_15, sX11_foodAll_16, sX11_foodAll_17, sX11_foodAll_20, sX11_foodAll_21, sX11_foodAll_24, sX11_foodAll_25, sX11_foodAll_28, sX11_foodAll_29, sX11_foodAll_30, sX11_foodAll_33, sX11_foodAll_34, sX11_foodAll_35, sX11_foodAll_38, sX11_foodAll_41, sX11_foodAll_42, ↓hf103_20, ↓hg113, ↓if_pos, ↓if_neg, ↓reduceIte, true_or, or_true, not_true_eq_false, not_false_eq_true, Int.toNat_natCast, i32_of, aup_s, aup_n, fup_s, fup_n, aup_aup, fup_fup, Nat.reduceAdd, Nat.reduceMul, Int.reduceToNat, Int.reduceAdd, Int.reduceSub, Int.reduceMul, Int.reduceNeg, hG]
  | succ n ih =>
    intro k hk
    have i := ih (k + 1) (by omega)
    have st := m_statusOf (A := A) (F := F) (E := E) (g := k) (by omega)
    have fo := m_foodOf (A := A) (F := F) (E := E) (g := k) (by omega)
    rw [sX11_foodAll_4]
    have e1 : 50 + 7 * k - 36 = 14 + 7 * k := by omega
    have e2 : 49 + 7 * k - 36 = 13 + 7 * k := by omega
    by_cases z : A 113 (14 + 7 * k) = 2
    · rw [foodN, if_pos (by rw [e1]; exact z)] at i
      simp (disch := omega) only [eX11_foodAll, sX11_foodAll_0, sX11_foodAll_1, sX11_foodAll_2, sX11_foodAll_3, sX11_foodAll_5, sX11_foodAll_6, sX11_foodAll_9, sX11_foodAll_10, sX11_foodAll_11, sX11_foodAll_14, sX11_foodAll_15, sX11_foodAll_16, sX11_foodAll_17, sX11_foodAll_20, sX11_foodAll_21, sX11_foodAll_24, sX11_foodAll_25, sX11_foodAll_28, sX11_foodAll_29, sX11_foodAll_30, sX11_foodAll_33, sX11_foodAll_34, sX11_foodAll_35, sX11_foodAll_38, sX11_foodAll_41, sX11_foodAll_42, ↓hf103_20, ↓hg113, ↓if_pos, ↓if_neg, ↓reduceIte, Int.reduceToNat, hG, ↓hk103, ↓bndi_at st, z, i32_s]
      exact i
    · rw [foodN, if_neg (by rw [e1]; exact z), e2] at i
      simp (disch := omega) only [eX11_foodAll, sX11_foodAll_0, sX11_foodAll_1, sX11_foodAll_2, sX11_foodAll_3, sX11_foodAll_5, sX11_foodAll_6, sX11_foodAll_9, sX11_foodAll_10, sX11_foodAll_11, sX11_foodAll_14, sX11_foodAll_15, sX11_foodAll_16, sX11_foodAll_17, sX11_foodAll_20, sX11_foodAll_21, sX11_foodAll_24, sX11_foodAll_25, sX11_foodAll_28, sX11_foodAll_29, sX11_foodAll_30, sX11_foodAll_33, sX11_foodAll_34, sX11_foodAll_35, sX11_foodAll_38, sX11_foodAll_41, sX11_foodAll_42, ↓hf103_20, ↓hg113, ↓if_pos, ↓if_neg, ↓reduceIte, Int.reduceToNat, hG, ↓hk103, ↓bndi_at st, ↓bndi_at fo, z, i32_s]
      exact i
theorem m_food {G : Nat} (hG : A 113 2 = (G : Int)) (hG5 : G ≤ 5) : cl mX11_foodAll [vr 103] (HP A F E) = some (vi (foodN (fun j => A 113 (j - 36)) G), HP A F E) := by
  have l := m_food_l (F := F) (E := E) hG hG5 G 0 (by omega)
  rw [← l]
  simp only [eX11_foodAll, sX11_foodAll_0, sX11_foodAll_1, sX11_foodAll_2, sX11_foodAll_3, sX11_foodAll_5, sX11_foodAll_6, sX11_foodAll_9, sX11_foodAll_10, sX11_foodAll_11, sX11_foodAll_14, sX11_foodAll_15, sX11_foodAll_16, sX11_foodAll_17, sX11_foodAll_20, sX11_foodAll_21, sX11_foodAll_24, sX11_foodAll_25, sX11_foodAll_28, sX11_foodAll_29, sX11_foodAll_30, sX11_foodAll_33, sX11_foodAll_34, sX11_foodAll_35, sX11_foodAll_38, sX11_foodAll_41, sX11_foodAll_42]
  rfl
end M2
