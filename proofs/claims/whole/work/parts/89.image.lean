/-! image, back -/
section IM
variable {α : Type} {A F : Nat → Nat → Int} {E : zE} {k : Nat} {a f : Nat → Int} {K : Int → Option α} {Kr : Nat → Option α} {M : zMd} {pc : Nat} {L st : List zV} {v : Int}
theorem hc_i (h : k < 4) : hc E (67 + 9 * k) a f = zob 2 [vr (68 + 9 * k), vr (70 + 9 * k), vr (72 + 9 * k), vi (f 3), vi (f 4), vi (f 5)] := by
  unfold hc
  rw [if_neg (by omega), if_neg (by omega), if_pos (by omega), if_pos (by omega), show 67 + 9 * k + 1 = 68 + 9 * k by omega, show 67 + 9 * k + 3 = 70 + 9 * k by omega, show 67 + 9 * k + 5 = 72 + 9 * k by omega]
theorem hi_0 (h : k < 4) : gfr ((HP A F E).2 (67 + 9 * k)) 2 0 Kr = Kr (68 + 9 * k) := gfr_at (hc_i h) rfl
theorem hi_1 (h : k < 4) : gfr ((HP A F E).2 (67 + 9 * k)) 2 1 Kr = Kr (70 + 9 * k) := gfr_at (hc_i h) rfl
theorem hi_2 (h : k < 4) : gfr ((HP A F E).2 (67 + 9 * k)) 2 2 Kr = Kr (72 + 9 * k) := gfr_at (hc_i h) rfl
theorem hi_3 (h : k < 4) : gfi ((HP A F E).2 (67 + 9 * k)) 2 3 K = K (F (67 + 9 * k) 3) := gfi_at (hc_i h) rfl
theorem hi_4 (h : k < 4) : gfi ((HP A F E).2 (67 + 9 * k)) 2 4 K = K (F (67 + 9 * k) 4) := gfi_at (hc_i h) rfl
theorem hi_5 (h : k < 4) : gfi ((HP A F E).2 (67 + 9 * k)) 2 5 K = K (F (67 + 9 * k) 5) := gfi_at (hc_i h) rfl
theorem hpi_3 (h : k < 4) : pfv ((HP A F E).2 (67 + 9 * k)) 2 3 (vi v) (fun c => rn M pc L st (zup (HP A F E) (67 + 9 * k) c)) = rn M pc L st (HP A (aup F (67 + 9 * k) (fup (F (67 + 9 * k)) 3 v)) E) := by
  rw [pfv_at (hc_i h) (Nat.le_of_ble_eq_true rfl)]
  exact congrArg (rn M pc L st) (zup_HPf (f := fup (F (67 + 9 * k)) 3 v) (by rw [hc_i h]; rfl))
theorem hpi_4 (h : k < 4) : pfv ((HP A F E).2 (67 + 9 * k)) 2 4 (vi v) (fun c => rn M pc L st (zup (HP A F E) (67 + 9 * k) c)) = rn M pc L st (HP A (aup F (67 + 9 * k) (fup (F (67 + 9 * k)) 4 v)) E) := by
  rw [pfv_at (hc_i h) (Nat.le_of_ble_eq_true rfl)]
  exact congrArg (rn M pc L st) (zup_HPf (f := fup (F (67 + 9 * k)) 4 v) (by rw [hc_i h]; rfl))
theorem hpi_5 (h : k < 4) : pfv ((HP A F E).2 (67 + 9 * k)) 2 5 (vi v) (fun c => rn M pc L st (zup (HP A F E) (67 + 9 * k) c)) = rn M pc L st (HP A (aup F (67 + 9 * k) (fup (F (67 + 9 * k)) 5 v)) E) := by
  rw [pfv_at (hc_i h) (Nat.le_of_ble_eq_true rfl)]
  exact congrArg (rn M pc L st) (zup_HPf (f := fup (F (67 + 9 * k)) 5 v) (by rw [hc_i h]; rfl))
theorem wad_i1 (h : k < 4) : wad (68 + 9 * k) := by unfold wad; omega
theorem wad_i2 (h : k < 4) : wad (70 + 9 * k) := by unfold wad; omega
theorem nob_i (h : k < 4) : nob (72 + 9 * k) := by unfold nob; omega
theorem hk_n {x : Option α} {p : Nat} (h : nob p) : cki ((HP A F E).2 p) 3 x = x := cki_at (hc_n h).1
theorem m_img_l {F : Nat → Nat → Int} (hk : k < 4) : ∀ (n i : Nat) (A : Nat → Nat → Int), i + n = 176 → ∃ W, rn mX11_image 43 [vr 103, vi (k : Int), vi (i : Int)] [] (HP A F E) = some (vi (A 113 10), HP (aup A 123 W) F E) ∧ ∀ j, W j = if 176 * k + i ≤ j ∧ j < 176 * k + 176 then A 113 (j - 176 * k) else A 123 j := by
  intro n
  induction n with
  | zero =>
    intro i A hi
    have : i = 176 := by omega
    subst this
    refine ⟨A 123, ?_, fun j => by rw [if_neg (by omega)]⟩
    rw [sX11_image_43, aup_id]
    simp (disch := omega) only [eX11_image, sX11_image_0, sX11_image_1, sX11_image_2, sX11_image_3, sX11_image_6, sX11_image_9, sX11_image_12, sX11_image_13, sX11_image_14, sX11_image_15, sX11_image_18, sX11_image_19, sX11_image_20, sX11_image_21, sX11_image_22, sX11_image_25, sX11_image_26, sX11_image_27, sX11_image_30, sX11_image_31, sX11_image_32, sX11_image_35, sX11_image_36, sX11_image_37, sX11_image_40, sX11_image_41, sX11_image_42, sX11_image_44, sX11_image_47, sX11_image_50, sX11_image_51, sX11_image_54, sX11_image_57, sX11_image_58, sX11_image_59, sX11_image_60, sX11_image_61, sX11_image_62, sX11_image_65, sX11_image_66, sX11_image_67, sX11_image_68, sX11_image_71, sX11_image_74, sX11_image_75, sX11_image_78, sX11_image_80, sX11_image_81, ↓hf103_20, ↓hg113, Int.reduceToNat, ↓if_pos]
  | succ n ih =>
    intro i A hi
    obtain ⟨W, r1, r2⟩ := ih (i + 1) (aup A 123 (fup (A 123) (176 * k + i) (A 113 i))) (by omega)
    rw [aup_aup, aup_n (by omega)] at r1
    have tn : (176 * (k : Int) + (i : Int)).toNat = 176 * k + i := by omega
    refine ⟨W, ?_, fun j => ?_⟩
    · rw [← r1, sX11_image_43]
      simp (disch := omega) only [eX11_image, sX11_image_0, sX11_image_1, sX11_image_2, sX11_image_3, sX11_image_6, sX11_image_9, sX11_image_12, sX11_image_13, sX11_image_14, sX11_image_15, sX11_image_18, sX11_image_19, sX11_image_20, sX11_image_21, sX11_image_22, sX11_image_25, sX11_image_26, sX11_image_27, sX11_image_30, sX11_image_31, sX11_image_32, sX11_image_35, sX11_image_36, sX11_image_37, sX11_image_40, sX11_image_41, sX11_image_42, sX11_image_44, sX11_image_47, sX11_image_50, sX11_image_51, sX11_image_54, sX11_image_57, sX11_image_58, sX11_image_59, sX11_image_60, sX11_image_61, sX11_image_62, sX11_image_65, sX11_image_66, sX11_image_67, sX11_image_68, sX11_image_71, sX11_image_74, sX11_image_75, sX11_image_78, sX11_image_80, sX11_image_81, ↓hf103_20, ↓hf103_37, ↓hg113, ↓hs123, ↓if_neg, i32_of, tn, Int.toNat_natCast]
      rfl
    · rw [r2, aup_s, aup_n (by omega)]
      by_cases q : j = 176 * k + i
      · subst q; rw [if_neg (by omega), if_pos (by omega), fup_s, show 176 * k + i - 176 * k = i by omega]
      · by_cases q2 : 176 * k + i ≤ j ∧ j < 176 * k + 176
        · rw [if_pos (by omega), if_pos q2]
        · rw [if_neg (by omega), if_neg q2, fup_n q]
theorem m_bck_l {F : Nat → Nat → Int} (hk : k < 4) : ∀ (n i : Nat) (A : Nat → Nat → Int), i + n = 176 → ∃ W, rn mX11_back 50 [vr 103, vi (k : Int), vi (i : Int)] [] (HP A F E) = some (vi (W 10), HP (aup A 113 W) F E) ∧ ∀ j, W j = if i ≤ j ∧ j < 176 then A 123 (176 * k + j) else A 113 j := by
  intro n
  induction n with
  | zero =>
    intro i A hi
    have : i = 176 := by omega
    subst this
    refine ⟨A 113, ?_, fun j => by rw [if_neg (by omega)]⟩
    rw [sX11_back_50, aup_id]
    simp (disch := omega) only [eX11_back, sX11_back_0, sX11_back_1, sX11_back_2, sX11_back_3, sX11_back_6, sX11_back_9, sX11_back_12, sX11_back_13, sX11_back_16, sX11_back_17, sX11_back_18, sX11_back_21, sX11_back_22, sX11_back_23, sX11_back_24, sX11_back_25, sX11_back_28, sX11_back_29, sX11_back_30, sX11_back_33, sX11_back_34, sX11_back_35, sX11_back_38, sX11_back_39, sX11_back_40, sX11_back_43, sX11_back_44, sX11_back_45, sX11_back_48, sX11_back_49, sX11_back_51, sX11_back_54, sX11_back_57, sX11_back_58, sX11_back_61, sX11_back_62, sX11_back_63, sX11_back_66, sX11_back_69, sX11_back_70, sX11_back_71, sX11_back_72, sX11_back_73, sX11_back_74, sX11_back_75, sX11_back_78, sX11_back_81, sX11_back_82, sX11_back_85, sX11_back_87, sX11_back_88, ↓hf103_20, ↓hg113, Int.reduceToNat, ↓if_pos]
  | succ n ih =>
    intro i A hi
    obtain ⟨W, r1, r2⟩ := ih (i + 1) (aup A 113 (fup (A 113) i (A 123 (176 * k + i)))) (by omega)
    rw [aup_aup] at r1
    have tn : (176 * (k : Int) + (i : Int)).toNat = 176 * k + i := by omega
    refine ⟨W, ?_, fun j => ?_⟩
    · rw [← r1, sX11_back_50]
      simp (disch := omega) only [eX11_back, sX11_back_0, sX11_back_1, sX11_back_2, sX11_back_3, sX11_back_6, sX11_back_9, sX11_back_12, sX11_back_13, sX11_back_16, sX11_back_17, sX11_back_18, sX11_back_21, sX11_back_22, sX11_back_23, sX11_back_24, sX11_back_25, sX11_back_28, sX11_back_29, sX11_back_30, sX11_back_33, sX11_back_34, sX11_back_35, sX11_back_38, sX11_back_39, sX11_back_40, sX11_back_43, sX11_back_44, sX11_back_45, sX11_back_48, sX11_back_49, sX11_back_51, sX11_back_54, sX11_back_57, sX11_back_58, sX11_back_61, sX11_back_62, sX11_back_63, sX11_back_66, sX11_back_69, sX11_back_70, sX11_back_71, sX11_back_72, sX11_back_73, sX11_back_74, sX11_back_75, sX11_back_78, sX11_back_81, sX11_back_82, sX11_back_85, sX11_back_87, sX11_back_88, ↓hf103_20, ↓hf103_37, ↓hg123, ↓hs113, ↓if_neg, i32_of, tn, Int.toNat_natCast]
      rfl
    · rw [r2, aup_s, aup_n (by omega)]
      by_cases q : j = i
      · subst q; rw [if_neg (by omega), if_pos (by omega), fup_s]
      · by_cases q2 : i ≤ j ∧ j < 176
        · rw [if_pos (by omega), if_pos q2]
        · rw [if_neg (by omega), if_neg q2, fup_n q]
end IM
/-- what is said counts only below 176 -/
theorem sds_n {w w' f : Nat → Int} (h : sds w f) (k : ∀ j, j < 76 → w' j = w j) : sds w' f := sds_c h k
theorem SR_c {f t fs fg fc s s' : Nat → Int} {z : Int} (h : SR f t fs fg fc z s) (k : ∀ j, j < 176 → s' j = s j) (k0 : SR0 f t z s → ∀ j, 176 ≤ j → s' j = 0) : SR f t fs fg fc z s' := by
  rcases h with h | ⟨G, r⟩
  · refine Or.inl ⟨h.1, h.2.1, h.2.2.1, fun j => ?_⟩
    by_cases q : j < 176
    · rw [k j q]; exact h.2.2.2 j
    · exact k0 h j (by omega)
  · refine Or.inr ⟨G, ?_⟩
    obtain ⟨h1, h2, h3, h4, h5, h6, h7, h8, h9, h10, h11⟩ := r
    refine ⟨h1, h2, by rw [k 0 (by omega)]; exact h3, ⟨by rw [k 1 (by omega)]; exact h4.1, by rw [k 2 (by omega)]; exact h4.2.1, fun e he => by rw [k _ (by omega)]; exact h4.2.2.1 e he, sds_c h4.2.2.2 (fun j hj => k _ (by omega))⟩, ?_, h6, h7, h8, by rw [k 175 (by omega)]; exact h9, fun i hi => ?_, h11⟩
    · obtain ⟨t1, t2, t3, t4⟩ := h5
      refine ⟨t1, fun e he => by rw [k _ (by omega)]; exact t2 e he, fun c hc => by rw [k _ (by omega)]; exact t3 c hc, fun g hg => ?_⟩
      rw [k (90 + 3 * g) (by omega), k (91 + 3 * g) (by omega), k (92 + 3 * g) (by omega)]
      exact t4 g hg
    · have nr := h10 i hi
      unfold NR at nr ⊢
      rw [k (145 + 3 * i) (by omega), k (146 + 3 * i) (by omega), k (147 + 3 * i) (by omega)]
      exact nr
