/-! image, back -/
section IM
variable {α : Type} {A F : Nat → Nat → Int} {E : zE} {k : Nat} {a f : Nat → Int} {K : Int → Option α} {Kr : Nat → Option α} {M : zMd} {pc : Nat} {L st : List zV} {v : Int}
theorem hc_i (h : k < 4) : hc E (67 + 9 * k) a f = zob 2 [vr (68 + 9 * k), vr (70 + 9 * k), vr (72 + 9 * k), vi (f 3), vi (f 4), vi (f 5)] := by
  unfold hc
  rw [if_neg (by omega), if_neg (by omega), if_pos (by omega), if_pos (by omega), show 67 + 9 * k + 1 = 68 + 9 * k by omega, show 67 + 9 * k + 3 = 70 + 9 * k by omega, show 67 + 9 * k + 5 = 72 + 9 * k by omega]
theorem hi_0 (h : k < 4) : gfr ((HP A F E).2 (67 + 9 * k)) 2 0 Kr = Kr (68 + 9 * k) := gfr_at (hc_i h) rfl
theorem hi_1 (h : k < 4) : gfr ((HP A F E).2 (67 + 9 * k)) 2 1 Kr = Kr (70 + 9 * k) := gfr_at (hc_i h) rfl
theorem hi_2 (h : k < 4) : gfr ((HP A F E).2 (67 + 9 * k)) 2 2 Kr = Kr (72 + 9 * k) := gfr_at (hc_i h) rfl
theorem hi_3 (h : k < 4) : gfi ((HP A F E).2 (67 + 9 * k)) 2 3 K = K (F (67 + 9 * k) 3) := gfi_at (hc_i h) rfl
theorem hi_4 (h : k < 4) : gfi ((HP A F E).2 (67 + 9 * k)) 2 4 K = K (F (67 + 9 * k) 4) := gfi_at (hc_i h) rfl
theorem hi_5 (h : k < 4) : gfi ((HP A F E).2 (67 + 9 * k)) 2 5 K = K (F (67 + 9 * k) 5) := gfi_at (hc_i h) rfl
theorem hpi_3 (h : k < 4) : pfv ((HP A F E).2 (67 + 9 * k)) 2 3 (vi v) (fun c => rn M pc L st (zup (HP A F E) (67 + 9 * k) c)) = rn M pc L st (HP A (aup F (67 + 9 * k) (fup (F (67 + 9 * k)) 3 v)) E) := by
  rw [pfv_at (hc_i h) (Nat.le_of_ble_eq_true rfl)]
  exact congrArg (rn M pc L st) (zup_HPf (f := fup (F (67 + 9 * k)) 3 v) (by rw [hc_i h]; rfl))
theorem hpi_4 (h : k < 4) : pfv ((HP A F E).2 (67 + 9 * k)) 2 4 (vi v) (fun c => rn M pc L st (zup (HP A F E) (67 + 9 * k) c)) = rn M pc L st (HP A (aup F (67 + 9 * k) (fup (F (67 + 9 * k)) 4 v)) E) := by
  rw [pfv_at (hc_i h) (Nat.le_of_ble_eq_true rfl)]
  exact congrArg (rn M pc L st) (zup_HPf (f := fup (F (67 + 9 * k)) 4 v) (by rw [hc_i h]; rfl))
theorem hpi_5 (h : k < 4) : pfv ((HP A F E).2 (67 + 9 * k)) 2 5 (vi v) (fun c => rn M pc L st (zup (HP A F E) (67 + 9 * k) c)) = rn M pc L st (HP A (aup F (67 + 9 * k) (fup (F (67 + 9 * k)) 5 v)) E) := by
  rw [pfv_at (hc_i h) (Nat.le_of_ble_eq_true rfl)]
  exact congrArg (rn M pc L st) (zup_HPf (f := fup (F (67 + 9 * k)) 5 v) (by rw [hc_i h]; rfl))
theorem wad_i1 (h : k < 4) : wad (68 + 9 * k) := by unfold wad; omega
theorem wad_i2 (h : k < 4) : wad (70 + 9 * k) := by unfold wad; omega
theorem nob_i (h : k < 4) : nob (72 + 9 * k) := by unfold nob; omega
theorem hk_n {x : Option α} {p : Nat} (h : nob p) : cki ((HP A F E).2 p) 3 x = x := cki_at (hc_n h).1
theorem m_img_l {F : Nat → Nat → Int} (hk : k < 4) : ∀ (n i : Nat) (A : Nat → Nat → Int), i + n = 176 → ∃ W, rn mX11_image 43 [vr 103, vi (k : Int), vi (i : Int)] [] (HP A F E) = some (vi (A 113 10), HP (aup A 123 W) F E) ∧ ∀ j, W j = if 176 * k + i ≤ j ∧ j < 176 * k + 176 then A 113 (j - 176 * k) else A 123 j := by
  intro n
  induction n with
  | zero =>
    intro i A hi
    have : i = 176 := by omega
    subst this
    refine ⟨A 123, ?_, fun j => by rw [if_neg (by omega)]⟩
    rw [sX11_image_43, aup_id]
    simp (disch := omega) only [eX11_image, sX11_image_0, sX11_image_1, sX11_image_2, sX11_image_3, sX11_image_6, sX11_image_9, sX11_image_12, sX11_image_13, sX11_image_14, sX11_image_15, sX11_image_18, sX11_image_19, sX11_image_20, sX11_image_21, sX11_image_22, sX11_image_25, sX11_image_26, sX11_image_27, sX11_image_30, sX11_image_31, sX11_image_32, sX11_image_35, sX11_image_36, sX11_image_37, sX11_image_40, sX11_image_41, sX11_image_42, sX11_image_44, sX11_image_47, sX11_image_50, sX11_image_51, sX11_image_54, sX11_image_57, sX11_image_58, sX11_image_59, sX11_image_60, sX11_image_61, sX11_image_62, sX11_image_65, sX11_image_66, sX11_image_67, sX11_image_68, sX11_image_71, sX11_image_74, sX11_image_75, sX11_image_78, sX11_image_80, sX11_image_81, ↓hf103_20, ↓hg113, Int.reduceToNat, ↓if_pos]
  | succ n ih =>
    intro i A hi
    obtain ⟨W, r1, r2⟩ := ih (i + 1) (aup A 123 (fup (A 123) (176 * k + i) (A 113 i))) (by omega)
    rw [aup_aup, aup_n (by omega)] at r1
    have tn : (176 * (k : Int) + (i : Int)).toNat = 176 * k + i := by omega
    refine ⟨W, ?_, fun j => ?_⟩
    · rw [← r1, sX11_image_43]
      simp (disch := omega) only [eX11_image, sX11_image_0, sX11_image_1, sX11_image_2, sX11_image_3, sX11_image_6, sX11_image_9, sX11_image_12, sX11_image_13, sX11_image_14, sX11_image_15, sX11_image_18, sX11_image_19, sX11_image_20, sX11_image_21, sX11_image_22, sX11_image_25, sX11_image_26, sX11_image_27, sX11_image_30, sX11_image_31, sX11_image_32, sX11_image_35, sX11_image_36, sX11_image_37, sX11_image_40, sX11_image_41, sX11_image_42, sX11_image_44, sX11_image_47, sX11_image_50, sX11_image_51, sX11_image_54, sX11_image_57, sX11_image_58, sX11_image_59, sX11_image_60, sX11_image_61, sX11_image_62, sX11_image_65, sX11_image_66, sX11_image_67, sX11_image_68, sX11_image_71, sX11_image_74, sX11_image_75, sX11_image_78, sX11_image_80, sX11_image_81, ↓hf103_20, ↓hf103_37, ↓hg113, ↓hs123, ↓if_neg, i32_of, tn, Int.toNat_natCast]
      rfl
    · rw [r2, aup_s, aup_n (by omega)]
      by_cases q : j = 176 * k + i
      · subst q; rw [if_neg (by omega), if_pos (by omega), fup_s, show 176 * k + i - 176 * k = i by omega]
      · by_cases q2 : 176 * k + i ≤ j ∧ j < 176 * k + 176
        · rw [if_pos (by omega), if_pos q2]
        · rw [if_neg (by omega), if_neg q2, fup_n q]
theorem m_bck_l {F : Nat → Nat → Int} (hk : k < 4) : ∀ (n i : Nat) (A : Nat → Nat → Int), i + n = 176 → ∃ W, rn mX11_back 50 [vr 103, vi (k : Int), vi (i : Int)] [] (HP A F E) = some (vi (W 10), HP (aup A 113 W) F E) ∧ ∀ j, W j = if i ≤ j ∧ j < 176 then A 123 (176 * k + j) else A 113 j := by
  intro n
  induction n with
  | zero =>
    intro i A hi
    have : i = 176 := by omega
    subst this
    refine ⟨A 113, ?_, fun j => by rw [if_neg (by omega)]⟩
    rw [sX11_back_50, aup_id]
    simp (disch := omega) only [eX11_back, sX11_back_0, sX11_back_1, sX11_back_2, sX11_back_3, sX11_back_6, sX11_back_9, sX11_back_12, sX11_back_13, sX11_back_16, sX11_back_17, sX11_back_18, sX11_back_21, sX11_back_22, sX11_back_23, sX11_back_24, sX11_back_25, sX11_back_28, sX11_back_29, sX11_back_30, sX11_back_33, sX11_back_34, sX11_back_35, sX11_back_38, sX11_back_39, sX11_back_40, sX11_back_43, sX11_back_44, sX11_back_45, sX11_back_48, sX11_back_49, sX11_back_51, sX11_back_54, sX11_back_57, sX11_back_58, sX11_back_61, sX11_back_62, sX11_back_63, sX11_back_66, sX11_back_69, sX11_back_70, sX11_back_71, sX11_back_72, sX11_back_73, sX11_back_74, sX11_back_75, sX11_back_78, sX11_back_81, sX11_back_82, sX11_back_85, sX11_back_87, sX11_back_88, ↓hf103_20, ↓hg113, Int.reduceToNat, ↓if_pos]
  | succ n ih =>
    intro i A hi
    obtain ⟨W, r1, r2⟩ := ih (i + 1) (aup A 113 (fup (A 113) i (A 123 (176 * k + i)))) (by omega)
    rw [aup_aup] at r1
    have tn : (176 * (k : Int) + (i : Int)).toNat = 176 * k + i := by omega
    refine ⟨W, ?_, fun j => ?_⟩
    · rw [← r1, sX11_back_50]
      simp (disch := omega) only [eX11_back, sX11_back_0, sX11_back_1, sX11_back_2, sX11_back_3, sX11_back_6, sX11_back_9, sX11_back_12, sX11_back_13, sX11_back_16, sX11_back_17, sX11_back_18, sX11_back_21, sX11_back_22, sX11_back_23, sX11_back_24, sX11_back_25, sX11_back_28, sX11_back_29, sX11_back_30, sX11_back_33, sX11_back_34, sX11_back_35, sX11_back_38, sX11_back_39, sX11_back_40, sX11_back_43, sX11_back_44, sX11_back_45, sX11_back_48, sX11_back_49, sX11_back_51, sX11_back_54, sX11_back_57, sX11_back_58, sX11_back_61, sX11_back_62, sX11_back_63, sX11_back_66, sX11_back_69, sX11_back_70, sX11_back_71, sX11_back_72, sX11_back_73, sX11_back_74, sX11_back_75, sX11_back_78, sX11_back_81, sX11_back_82, sX11_back_85, sX11_back_87, sX11_back_88, ↓hf103_20, ↓hf103_37, ↓hg123, ↓hs113, ↓if_neg, i32_of, tn, Int.toNat_natCast]
      rfl
    · rw [r2, aup_s, aup_n (by omega)]
      by_cases q : j = i
      · subst q; rw [if_neg (by omega), if_pos (by omega), fup_s]
      · by_cases q2 : i ≤ j ∧ j < 176
        · rw [if_pos (by omega), if_pos q2]
        · rw [if_neg (by omega), if_neg q2, fup_n q]
end IM
/-- what is said counts only below 176 -/
theorem sds_n {w w' f : Nat → Int} (h : sds w f) (k : ∀ j, j < 76 → w' j = w j) : sds w' f := sds_c h k
theorem SR_c {f t fs fg fc s s' : Nat → Int} {z : Int} (h : SR f t fs fg fc z s) (k : ∀ j, j < 176 → s' j = s j) : SR f t fs fg fc z s' := by
  rcases h with h | ⟨G, r⟩
  · exact Or.inl ⟨h.1, h.2.1, h.2.2.1, fun j hj => by rw [k j hj]; exact h.2.2.2 j hj⟩
  · refine Or.inr ⟨G, ?_⟩
    obtain ⟨h1, h2, h3, h4, h5, h6, h7, h8, h9, h10, h11⟩ := r
    refine ⟨h1, h2, by rw [k 0 (by omega)]; exact h3, ⟨by rw [k 1 (by omega)]; exact h4.1, by rw [k 2 (by omega)]; exact h4.2.1, fun e he => by rw [k _ (by omega)]; exact h4.2.2.1 e he, sds_c h4.2.2.2 (fun j hj => k _ (by omega))⟩, ?_, h6, h7, h8, by rw [k 175 (by omega)]; exact h9, fun i hi => ?_, h11⟩
    · obtain ⟨t1, t2, t3, t4⟩ := h5
      refine ⟨t1, fun e he => by rw [k _ (by omega)]; exact t2 e he, fun c hc => by rw [k _ (by omega)]; exact t3 c hc, fun g hg => ?_⟩
      rw [k (90 + 3 * g) (by omega), k (91 + 3 * g) (by omega), k (92 + 3 * g) (by omega)]
      exact t4 g hg
    · have nr := h10 i hi
      unfold NR at nr ⊢
      rw [k (145 + 3 * i) (by omega), k (146 + 3 * i) (by omega), k (147 + 3 * i) (by omega)]
      exact nr
section IM2
variable {A F : Nat → Nat → Int} {E : zE}
theorem k_image {k : Int} (h : inv A F E) : prs mX10_image mX11_image [vi k] A F E := by
  have h' := h
  obtain ⟨hT, hR, hW, hS, hH, hI⟩ := h
  have wi := E_within (v := k) (lo := 0) (hi := 3) (h := HP A F E)
  have mi := fun H => m_in (v := k) (lo := 0) (hi := 3) (h := H)
  by_cases z : 0 ≤ k ∧ k ≤ 3
  · rw [if_pos z] at wi
    obtain ⟨n, rfl⟩ : ∃ n : Nat, k = (n : Int) := ⟨k.toNat, by omega⟩
    have hn : n < 4 := by omega
    have c1 := h_copy (A := A) (F := aup F (67 + 9 * n) (fup (F (67 + 9 * n)) 3 1)) (E := E) (wad_i1 hn) wad_12 (hW.1 _ (wad_i1 hn)) (hW.1 _ wad_12)
    rw [show 68 + 9 * n + 1 = 69 + 9 * n by omega] at c1
    have hW1 : iW (aup A (69 + 9 * n) (A (12 + 1))) := by
      refine ⟨fun a ha => ?_, fun j hj => ?_⟩
      · by_cases q : a + 1 = 69 + 9 * n
        · rw [q, aup_s]; exact hW.1 12 wad_12
        · rw [aup_n q]; exact hW.1 a ha
      · rw [aup_n (by unfold nad at hj; omega)]; exact hW.2 j hj
    generalize hF1 : aup (aup F (67 + 9 * n) (fup (F (67 + 9 * n)) 3 1)) (68 + 9 * n) (fup (aup F (67 + 9 * n) (fup (F (67 + 9 * n)) 3 1) (68 + 9 * n)) 1 (-1)) = F1 at c1
    have c2 := h_copy (A := aup A (69 + 9 * n) (A (12 + 1))) (F := F1) (E := E) (wad_i2 hn) wad_10 (hW1.1 _ (wad_i2 hn)) (hW1.1 _ wad_10)
    rw [show 70 + 9 * n + 1 = 71 + 9 * n by omega, aup_n (by omega)] at c2
    have hW2 : iW (aup (aup A (69 + 9 * n) (A (12 + 1))) (71 + 9 * n) (A (10 + 1))) := by
      refine ⟨fun a ha => ?_, fun j hj => ?_⟩
      · by_cases q : a + 1 = 71 + 9 * n
        · rw [q, aup_s]; exact hW.1 10 wad_10
        · rw [aup_n q]; exact hW1.1 a ha
      · rw [aup_n (by unfold nad at hj; omega)]; exact hW1.2 j hj
    generalize hF2 : aup F1 (70 + 9 * n) (fup (F1 (70 + 9 * n)) 1 (-1)) = F2 at c2
    generalize hA2 : aup (aup A (69 + 9 * n) (A (12 + 1))) (71 + 9 * n) (A (10 + 1)) = A2 at *
    have c3 := h_ncopy (A := A2) (F := F2) (E := E) (nob_i hn) nob_16 (by omega) hW2
    rw [show 72 + 9 * n + 1 = 73 + 9 * n by omega, show 72 + 9 * n + 2 = 74 + 9 * n by omega, show 72 + 9 * n + 3 = 75 + 9 * n by omega] at c3
    generalize hF3 : aup F2 (72 + 9 * n) (fup (F2 (72 + 9 * n)) 3 (F2 16 3)) = F3 at c3
    generalize hA3 : aup (aup (aup A2 (73 + 9 * n) (A2 (16 + 1))) (74 + 9 * n) (A2 (16 + 2))) (75 + 9 * n) (A2 (16 + 3)) = A3 at c3
    have f31 : F3 1 = F 1 := by rw [← hF3, aup_n (by omega), ← hF2, aup_n (by omega), ← hF1, aup_n (by omega), aup_n (by omega)]
    generalize hF4 : aup (aup F3 (67 + 9 * n) (fup (F3 (67 + 9 * n)) 4 (F 1 5))) (67 + 9 * n) (fup (fup (F3 (67 + 9 * n)) 4 (F 1 5)) 5 (F 1 6)) = F4
    have kA : ∀ j, (j < 67 ∨ 103 ≤ j ∨ (j ≠ 69 + 9 * n ∧ j ≠ 71 + 9 * n ∧ j ≠ 73 + 9 * n ∧ j ≠ 74 + 9 * n ∧ j ≠ 75 + 9 * n)) → A3 j = A j := fun j hj => by
      rw [← hA3, aup_n (by omega), aup_n (by omega), aup_n (by omega), ← hA2, aup_n (by omega), aup_n (by omega)]
    have kF : ∀ j, (j < 67 ∨ 103 ≤ j ∨ (j ≠ 67 + 9 * n ∧ j ≠ 68 + 9 * n ∧ j ≠ 70 + 9 * n ∧ j ≠ 72 + 9 * n)) → F4 j = F j := fun j hj => by
      rw [← hF4, aup_n (by omega), aup_n (by omega), ← hF3, aup_n (by omega), ← hF2, aup_n (by omega), ← hF1, aup_n (by omega), aup_n (by omega)]
    have gt : cl mX9_get [vr 12, vi 2] (HP A3 F4 E) = some (vi (A 13 2), HP A3 F4 E) := by
      have := h_get (A := A3) (F := F4) (E := E) (i := 2) wad_12 (by omega) (by omega)
      rw [this, kA (12 + 1) (by omega)]; rfl
    obtain ⟨W, w1, w2⟩ := m_img_l (E := E) (F := F4) hn 176 0 (aup (aup (aup A3 126 (fup (A 126) n 1)) 124 (fup (A 124) n (F 1 5))) 125 (fup (A 125) n (F 1 6))) (by omega)
    have w1' : rn mX11_image 43 [vr 103, vi (n : Int), vi 0] [] (HP (aup (aup (aup A3 126 (fup (A 126) n 1)) 124 (fup (A 124) n (F 1 5))) 125 (fup (A 125) n (F 1 6))) F4 E) = _ := w1
    have s10 := (iS_st hS).2.1
    have i11 : i1 1 = 1 := by decide
    obtain ⟨r1, r2, r3, r4, r5, r6, r7, r8, r9⟩ := hR
    simp (disch := omega) only [aup_s, aup_n, kA] at w1' w2
    rw [s10] at w1'
    have mi' := mi (HP A3 F4 E)
    rw [if_pos z] at mi'
    refine ⟨A 13 2, A3, F4, E, aup (aup (aup (aup A3 126 (fup (A 126) n 1)) 124 (fup (A 124) n (F 1 5))) 125 (fup (A 125) n (F 1 6))) 123 W, F4, E, ?_, ?_, ⟨?_, ?_, ?_, ?_, ?_, ?_⟩, rfl⟩
    · simp (disch := first | omega | assumption | exact nob_i hn | exact wad_i1 hn | exact wad_i2 hn) only [eX10_image, sX10_image_0, sX10_image_1, sX10_image_2, sX10_image_3, sX10_image_6, sX10_image_9, sX10_image_10, sX10_image_11, sX10_image_12, sX10_image_15, sX10_image_16, sX10_image_17, sX10_image_18, sX10_image_19, sX10_image_20, sX10_image_23, sX10_image_24, sX10_image_27, sX10_image_28, sX10_image_31, sX10_image_34, sX10_image_35, sX10_image_38, sX10_image_39, sX10_image_42, sX10_image_45, sX10_image_46, sX10_image_49, sX10_image_50, sX10_image_53, sX10_image_56, sX10_image_57, sX10_image_58, sX10_image_61, sX10_image_64, sX10_image_65, sX10_image_66, sX10_image_69, sX10_image_72, sX10_image_73, sX10_image_76, sX10_image_77, sX10_image_80, ↓hk1, ↓hf1_12, ↓hf1_8, ↓hf1_7, ↓hf1_10, ↓hf1_5, ↓hf1_6, ↓hk12, ↓bndi_at wi, ↓hg62, Int.toNat_natCast, or_true, ↓if_pos, ↓if_neg, ↓hpi_3, ↓hi_0, ↓hi_1, ↓hi_2, ↓h_cki, ↓bndv_at c1, ↓bndv_at c2, ↓hk_n, ↓bndv_at c3, ↓hpi_4, ↓hpi_5, aup_s, f31, aup_n, hF4, ↓bndi_at gt]
    · rw [← w1']
      have a126 : A3 126 = A 126 := kA 126 (by omega)
      have a124 : A3 124 = A 124 := kA 124 (by omega)
      have a125 : A3 125 = A 125 := kA 125 (by omega)
      have m21 : F4 103 21 = F 1 5 := by rw [kF 103 (by omega)]; exact r6
      have m22 : F4 103 22 = F 1 6 := by rw [kF 103 (by omega)]; exact r7
      simp (disch := omega) only [eX11_image, sX11_image_0, sX11_image_1, sX11_image_2, sX11_image_3, sX11_image_6, sX11_image_9, sX11_image_12, sX11_image_13, sX11_image_14, sX11_image_15, sX11_image_18, sX11_image_19, sX11_image_20, sX11_image_21, sX11_image_22, sX11_image_25, sX11_image_26, sX11_image_27, sX11_image_30, sX11_image_31, sX11_image_32, sX11_image_35, sX11_image_36, sX11_image_37, sX11_image_40, sX11_image_41, sX11_image_42, sX11_image_44, sX11_image_47, sX11_image_50, sX11_image_51, sX11_image_54, sX11_image_57, sX11_image_58, sX11_image_59, sX11_image_60, sX11_image_61, sX11_image_62, sX11_image_65, sX11_image_66, sX11_image_67, sX11_image_68, sX11_image_71, sX11_image_74, sX11_image_75, sX11_image_78, sX11_image_80, sX11_image_81, ↓hf103_40, ↓hf103_38, ↓hf103_39, ↓hf103_21, ↓hf103_22, ↓hs126, ↓hs124, ↓hs125, ↓bndi_at mi', Int.toNat_natCast, i11, a126, a124, a125, m21, m22, aup_n, ↓if_pos, ↓if_neg]
    · exact iT_f hT (by simp (disch := omega) only [aup_n, kA]) (by simp (disch := omega) only [aup_n, kA]) (kF 2 (by omega)) (by rw [kF 103 (by omega)])
    · refine ⟨r1, r2, by rw [kF 1 (by omega)]; exact r3, by rw [kF 103 (by omega)]; exact r4, by rw [kF 1 (by omega)]; exact r5, by rw [kF 103 (by omega), kF 1 (by omega)]; exact r6, by rw [kF 103 (by omega), kF 1 (by omega)]; exact r7, by rw [kF 1 (by omega)]; exact r8, fun i hi => RU_f (r9 i hi) ?_ ?_ ?_ ?_⟩ <;> simp (disch := omega) only [aup_n, kA]
    · refine ⟨fun a ha => ?_, fun j hj => ?_⟩
      · have := wad_b ha
        rw [aup_n (by omega), aup_n (by omega), aup_n (by omega), aup_n (by omega), ← hA3, aup_n (by unfold wad at ha; omega), aup_n (by unfold wad at ha; omega), aup_n (by unfold wad at ha; omega)]
        exact hW2.1 a ha
      · have na : nad 17 ∧ nad 18 ∧ nad 19 := by unfold nad; omega
        rw [aup_n (by unfold nad at hj; omega), aup_n (by unfold nad at hj; omega), aup_n (by unfold nad at hj; omega), aup_n (by unfold nad at hj; omega), ← hA3]
        by_cases q1 : j = 75 + 9 * n
        · rw [q1, aup_s]; exact hW2.2 19 na.2.2
        · rw [aup_n q1]
          by_cases q2 : j = 74 + 9 * n
          · rw [q2, aup_s]; exact hW2.2 18 na.2.1
          · rw [aup_n q2]
            by_cases q3 : j = 73 + 9 * n
            · rw [q3, aup_s]; exact hW2.2 17 na.1
            · rw [aup_n q3]; exact hW2.2 j hj
    · unfold iS
      simp (disch := omega) only [aup_n, kA]
      rw [kF 16 (by omega)]
      exact hS
    · exact iH_f hH (fun j hj => by simp (disch := omega) only [aup_n, kA]) (kF 20 (by omega)) (by rw [kF 103 (by omega)])
    · intro i hi
      by_cases q : i = n
      · subst q
        have e67 : F4 (67 + 9 * i) = fup (fup (fup (F (67 + 9 * i)) 3 1) 4 (F 1 5)) 5 (F 1 6) := by
          rw [← hF4, aup_s, ← hF3, aup_n (by omega), ← hF2, aup_n (by omega), ← hF1, aup_n (by omega), aup_s]
        have e72 : F4 (72 + 9 * i) 3 = F 16 3 := by
          rw [← hF4, aup_n (by omega), aup_n (by omega), ← hF3, aup_s, fup_s, ← hF2, aup_n (by omega), ← hF1, aup_n (by omega), aup_n (by omega)]
        have a69 : A3 (69 + 9 * i) = A 13 := by rw [← hA3, aup_n (by omega), aup_n (by omega), aup_n (by omega), ← hA2, aup_n (by omega), aup_s]
        have a71 : A3 (71 + 9 * i) = A 11 := by rw [← hA3, aup_n (by omega), aup_n (by omega), aup_n (by omega), ← hA2, aup_s]
        have a2n : ∀ j, j < 67 → A2 j = A j := fun j hj => by rw [← hA2, aup_n (by omega), aup_n (by omega)]
        have a73 : A3 (73 + 9 * i) = A 17 := by rw [← hA3, aup_n (by omega), aup_n (by omega), aup_s, a2n _ (by omega)]
        have a74 : A3 (74 + 9 * i) = A 18 := by rw [← hA3, aup_n (by omega), aup_s, a2n _ (by omega)]
        have a75 : A3 (75 + 9 * i) = A 19 := by rw [← hA3, aup_s, a2n _ (by omega)]
        rw [e67, e72]
        simp (disch := omega) only [aup_n, aup_s, fup_s, fup_n, a69, a71, a73, a74, a75]
        refine ⟨by trivial, Or.inr (by trivial), fun _ => ⟨SR_c hS (fun j hj => ?_), by trivial, r5, by trivial, r8⟩⟩
        rw [w2, if_pos (by omega), show 176 * i + j - 176 * i = j by omega]
      · have := hI i hi
        rw [kF (67 + 9 * i) (by omega), kF (72 + 9 * i) (by omega)]
        simp (disch := omega) only [aup_n, aup_s, fup_n, kA]
        refine ⟨this.1, this.2.1, fun y => ?_⟩
        obtain ⟨y1, y2⟩ := this.2.2 y
        refine ⟨SR_c y1 (fun j hj => ?_), y2⟩
        rw [w2, if_neg (by omega)]
  · rw [if_neg z] at wi
    have mi' := mi (HP A F E)
    rw [if_neg z] at mi'
    refine prs_0 (v := -1) h' ?_ ?_
    · simp (disch := omega) only [eX10_image, sX10_image_0, sX10_image_1, sX10_image_2, sX10_image_3, sX10_image_6, sX10_image_9, sX10_image_10, sX10_image_11, sX10_image_12, sX10_image_15, sX10_image_16, sX10_image_17, sX10_image_18, sX10_image_19, sX10_image_20, sX10_image_23, sX10_image_24, sX10_image_27, sX10_image_28, sX10_image_31, sX10_image_34, sX10_image_35, sX10_image_38, sX10_image_39, sX10_image_42, sX10_image_45, sX10_image_46, sX10_image_49, sX10_image_50, sX10_image_53, sX10_image_56, sX10_image_57, sX10_image_58, sX10_image_61, sX10_image_64, sX10_image_65, sX10_image_66, sX10_image_69, sX10_image_72, sX10_image_73, sX10_image_76, sX10_image_77, sX10_image_80, ↓bndi_at wi, ↓if_pos, ↓if_neg]
    · simp (disch := omega) only [eX11_image, sX11_image_0, sX11_image_1, sX11_image_2, sX11_image_3, sX11_image_6, sX11_image_9, sX11_image_12, sX11_image_13, sX11_image_14, sX11_image_15, sX11_image_18, sX11_image_19, sX11_image_20, sX11_image_21, sX11_image_22, sX11_image_25, sX11_image_26, sX11_image_27, sX11_image_30, sX11_image_31, sX11_image_32, sX11_image_35, sX11_image_36, sX11_image_37, sX11_image_40, sX11_image_41, sX11_image_42, sX11_image_44, sX11_image_47, sX11_image_50, sX11_image_51, sX11_image_54, sX11_image_57, sX11_image_58, sX11_image_59, sX11_image_60, sX11_image_61, sX11_image_62, sX11_image_65, sX11_image_66, sX11_image_67, sX11_image_68, sX11_image_71, sX11_image_74, sX11_image_75, sX11_image_78, sX11_image_80, sX11_image_81, ↓bndi_at mi', ↓if_pos, ↓if_neg]
end IM2
