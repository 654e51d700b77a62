/-! calls: force, end, seed, goer, join, stoneIn -/
section K1
variable {A F : Nat → Nat → Int} {E : zE}
theorem k_force {k : Int} (h : inv A F E) : prs mX10_force mX11_force [vi k] A F E := by
  obtain ⟨hT, hR, hW, hS, hH, hI⟩ := h
  obtain ⟨r1, r2, r3, r4, r5, r6, r7, r8, r9⟩ := hR
  have w := E_within (v := k) (lo := -1) (hi := F 1 4 - 1) (h := HP A F E)
  by_cases z : -1 ≤ k ∧ k < (E.2.1 : Int)
  · rw [if_pos (by omega)] at w
    refine ⟨F 1 5, A, aup F 1 (fup (F 1) 5 k), E, A, aup (aup F 1 (fup (F 1) 5 k)) 103 (fup (F 103) 21 k), E, ?_, ?_, ⟨?_, ?_, hW, ?_, ?_, ?_⟩, rfl⟩
    · simp (disch := omega) only [eX10_force, sX10_force_0, sX10_force_1, sX10_force_2, sX10_force_3, sX10_force_6, sX10_force_7, sX10_force_8, sX10_force_11, sX10_force_14, sX10_force_16, sX10_force_17, sX10_force_18, sX10_force_21, sX10_force_22, sX10_force_23, sX10_force_24, sX10_force_27, sX10_force_28, ↓hk1, ↓hf1_4, ↓hf1_5, ↓hp1_5, i32_of, ↓bndi_at w, ↓if_pos, ↓if_neg]
    · by_cases y : k = -1
      · simp (disch := omega) only [eX11_force, sX11_force_0, sX11_force_1, sX11_force_2, sX11_force_5, sX11_force_6, sX11_force_7, sX11_force_10, sX11_force_13, sX11_force_15, sX11_force_16, sX11_force_17, sX11_force_20, sX11_force_21, sX11_force_22, sX11_force_23, sX11_force_26, sX11_force_27, ↓hf103_21, ↓hp103_21, aup_n, aup_s, r6, y, ↓if_pos, ↓if_neg]
      · have ir := m_isRule (A := A) (F := aup F 1 (fup (F 1) 5 k)) (E := E) (k := k)
        rw [aup_n (by omega), if_pos (by omega)] at ir
        simp (disch := omega) only [eX11_force, sX11_force_0, sX11_force_1, sX11_force_2, sX11_force_5, sX11_force_6, sX11_force_7, sX11_force_10, sX11_force_13, sX11_force_15, sX11_force_16, sX11_force_17, sX11_force_20, sX11_force_21, sX11_force_22, sX11_force_23, sX11_force_26, sX11_force_27, ↓hk103, ↓hf103_21, ↓hp103_21, ↓bndi_at ir, aup_n, aup_s, r6, ↓if_pos, ↓if_neg]
    · exact iT_f hT rfl rfl (by rw [aup_n (by omega), aup_n (by omega)]) (by rw [aup_s, fup_n (by omega)])
    · refine ⟨r1, r2, ?_, ?_, ?_, ?_, ?_, ?_, r9⟩ <;> simp (disch := omega) only [aup_s, aup_n, fup_s, fup_n] <;> assumption
    · show SR _ _ _ _ _ (aup (aup F 1 _) 103 _ 16 3) _
      rw [aup_n (by omega), aup_n (by omega)]; exact hS
    · exact iH_f hH (fun _ _ => rfl) (by rw [aup_n (by omega), aup_n (by omega)]) (by rw [aup_s, fup_n (by omega)])
    · exact iI_f hI (fun _ _ => rfl) (fun j _ _ => by rw [aup_n (by omega), aup_n (by omega)])
  · rw [if_neg (by omega)] at w
    have ir := m_isRule (A := A) (F := F) (E := E) (k := k)
    rw [if_neg (by omega)] at ir
    refine prs_0 (v := -2) ⟨hT, ⟨r1, r2, r3, r4, r5, r6, r7, r8, r9⟩, hW, hS, hH, hI⟩ ?_ ?_
    · simp (disch := omega) only [eX10_force, sX10_force_0, sX10_force_1, sX10_force_2, sX10_force_3, sX10_force_6, sX10_force_7, sX10_force_8, sX10_force_11, sX10_force_14, sX10_force_16, sX10_force_17, sX10_force_18, sX10_force_21, sX10_force_22, sX10_force_23, sX10_force_24, sX10_force_27, sX10_force_28, ↓hk1, ↓hf1_4, ↓hf1_5, ↓hp1_5, i32_of, ↓bndi_at w, ↓if_pos, ↓if_neg]
    · simp (disch := omega) only [eX11_force, sX11_force_0, sX11_force_1, sX11_force_2, sX11_force_5, sX11_force_6, sX11_force_7, sX11_force_10, sX11_force_13, sX11_force_15, sX11_force_16, sX11_force_17, sX11_force_20, sX11_force_21, sX11_force_22, sX11_force_23, sX11_force_26, sX11_force_27, ↓hk103, ↓bndi_at ir, ↓if_pos, ↓if_neg]
theorem k_seed {k : Int} (k1 : k ≤ 2147483647) (h : inv A F E) : prs mX10_seed mX11_seed [vi k] A F E := by
  obtain ⟨hT, hR, hW, hS, hH, hI⟩ := h
  obtain ⟨r1, r2, r3, r4, r5, r6, r7, r8, r9⟩ := hR
  by_cases z : k < 0
  · refine prs_0 (v := -1) ⟨hT, ⟨r1, r2, r3, r4, r5, r6, r7, r8, r9⟩, hW, hS, hH, hI⟩ ?_ ?_
    · simp (disch := omega) only [eX10_seed, sX10_seed_0, sX10_seed_1, sX10_seed_4, sX10_seed_5, sX10_seed_6, sX10_seed_7, sX10_seed_10, sX10_seed_11, sX10_seed_12, sX10_seed_13, sX10_seed_16, sX10_seed_17, ↓if_pos, ↓if_neg]
    · simp (disch := omega) only [eX11_seed, sX11_seed_0, sX11_seed_1, sX11_seed_4, sX11_seed_5, sX11_seed_6, sX11_seed_7, sX11_seed_10, sX11_seed_11, sX11_seed_12, sX11_seed_13, sX11_seed_16, sX11_seed_17, ↓if_pos, ↓if_neg]
  · refine ⟨F 1 6, A, aup F 1 (fup (F 1) 6 k), E, A, aup (aup F 1 (fup (F 1) 6 k)) 103 (fup (F 103) 22 k), E, ?_, ?_, ⟨?_, ?_, hW, ?_, ?_, ?_⟩, rfl⟩
    · simp (disch := omega) only [eX10_seed, sX10_seed_0, sX10_seed_1, sX10_seed_4, sX10_seed_5, sX10_seed_6, sX10_seed_7, sX10_seed_10, sX10_seed_11, sX10_seed_12, sX10_seed_13, sX10_seed_16, sX10_seed_17, ↓hf1_6, ↓hp1_6, ↓if_pos, ↓if_neg]
    · simp (disch := omega) only [eX11_seed, sX11_seed_0, sX11_seed_1, sX11_seed_4, sX11_seed_5, sX11_seed_6, sX11_seed_7, sX11_seed_10, sX11_seed_11, sX11_seed_12, sX11_seed_13, sX11_seed_16, sX11_seed_17, ↓hf103_22, ↓hp103_22, aup_n, r7, ↓if_pos, ↓if_neg]
    · exact iT_f hT rfl rfl (by rw [aup_n (by omega), aup_n (by omega)]) (by rw [aup_s, fup_n (by omega)])
    · refine ⟨r1, r2, ?_, ?_, ?_, ?_, ?_, ?_, r9⟩ <;> simp (disch := omega) only [aup_s, aup_n, fup_s, fup_n] <;> first | assumption | omega
    · show SR _ _ _ _ _ (aup (aup F 1 _) 103 _ 16 3) _
      rw [aup_n (by omega), aup_n (by omega)]; exact hS
    · exact iH_f hH (fun _ _ => rfl) (by rw [aup_n (by omega), aup_n (by omega)]) (by rw [aup_s, fup_n (by omega)])
    · exact iI_f hI (fun _ _ => rfl) (fun j _ _ => by rw [aup_n (by omega), aup_n (by omega)])
theorem k_join {e w : Int} (h : inv A F E) : prs mX10_join mX11_join [vi e, vi w] A F E := by
  have hS := h.2.2.2.1
  have b := iS_b hS
  have hs := E_hasSheet (A := A) (F := F) (E := E)
  have ie := E_isEdge (e := e) (h := HP A F E)
  have wi := E_within (v := w) (lo := 0) (hi := 1) (h := HP A F E)
  have me := m_isEdge (A := A) (F := F) (E := E) (e := e)
  have mi := m_in (v := w) (lo := 0) (hi := 1) (h := HP A F E)
  by_cases z : 0 < A 13 0
  · rw [if_pos z] at hs
    by_cases z1 : 0 ≤ e ∧ e ≤ 3
    · rw [if_pos z1] at ie
      rw [if_pos ⟨b.2.2.2.2.1.mpr z, z1⟩] at me
      by_cases z2 : 0 ≤ w ∧ w ≤ 1
      · rw [if_pos z2] at wi mi
        obtain ⟨G, r⟩ := b.2.2.2.2.2.2.mp z
        have sd := r.2.2.2.1
        by_cases y : w = 0
        · refine prs_0 (v := A 13 (3 + e).toNat) h ?_ ?_
          · have g : cl mX9_get [vr 12, vi (3 + e)] (HP A F E) = some (vi (A 13 (3 + e).toNat), HP A F E) := h_get wad_12 (by omega) (by omega)
            simp (disch := omega) only [eX10_join, sX10_join_0, sX10_join_1, sX10_join_4, sX10_join_7, sX10_join_8, sX10_join_11, sX10_join_14, sX10_join_15, sX10_join_16, sX10_join_17, sX10_join_20, sX10_join_23, sX10_join_24, sX10_join_25, sX10_join_26, sX10_join_29, sX10_join_30, sX10_join_33, sX10_join_34, sX10_join_37, sX10_join_39, sX10_join_40, sX10_join_41, sX10_join_44, ↓hk1, ↓hf1_8, ↓hk12, ↓bndi_at hs, ↓bndi_at ie, ↓bndi_at wi, ↓bndi_at g, ↓if_pos, ↓if_neg, i32_of]
          · have l := sd_l sd (e := e.toNat) (by omega)
            rw [show 46 + e.toNat = (46 + e).toNat by omega, show 3 + e.toNat = (3 + e).toNat by omega] at l
            simp (disch := omega) only [eX11_join, sX11_join_0, sX11_join_1, sX11_join_2, sX11_join_5, sX11_join_8, sX11_join_9, sX11_join_10, sX11_join_11, sX11_join_12, sX11_join_15, sX11_join_18, sX11_join_19, sX11_join_20, sX11_join_21, sX11_join_24, sX11_join_25, sX11_join_28, sX11_join_30, sX11_join_31, sX11_join_32, sX11_join_33, sX11_join_36, sX11_join_37, sX11_join_40, sX11_join_42, sX11_join_43, sX11_join_44, sX11_join_45, ↓hk103, ↓hf103_20, ↓hg113, ↓bndi_at me, ↓bndi_at mi, ↓if_pos, ↓if_neg, i32_of, l]
        · refine prs_0 (v := A 13 (7 + e).toNat) h ?_ ?_
          · have g : cl mX9_get [vr 12, vi (7 + e)] (HP A F E) = some (vi (A 13 (7 + e).toNat), HP A F E) := h_get wad_12 (by omega) (by omega)
            simp (disch := omega) only [eX10_join, sX10_join_0, sX10_join_1, sX10_join_4, sX10_join_7, sX10_join_8, sX10_join_11, sX10_join_14, sX10_join_15, sX10_join_16, sX10_join_17, sX10_join_20, sX10_join_23, sX10_join_24, sX10_join_25, sX10_join_26, sX10_join_29, sX10_join_30, sX10_join_33, sX10_join_34, sX10_join_37, sX10_join_39, sX10_join_40, sX10_join_41, sX10_join_44, ↓hk1, ↓hf1_8, ↓hk12, ↓bndi_at hs, ↓bndi_at ie, ↓bndi_at wi, ↓bndi_at g, ↓if_pos, ↓if_neg, i32_of]
          · have l := sd_d sd (e := e.toNat) (by omega)
            rw [show 86 + e.toNat = (86 + e).toNat by omega, show 7 + e.toNat = (7 + e).toNat by omega] at l
            simp (disch := omega) only [eX11_join, sX11_join_0, sX11_join_1, sX11_join_2, sX11_join_5, sX11_join_8, sX11_join_9, sX11_join_10, sX11_join_11, sX11_join_12, sX11_join_15, sX11_join_18, sX11_join_19, sX11_join_20, sX11_join_21, sX11_join_24, sX11_join_25, sX11_join_28, sX11_join_30, sX11_join_31, sX11_join_32, sX11_join_33, sX11_join_36, sX11_join_37, sX11_join_40, sX11_join_42, sX11_join_43, sX11_join_44, sX11_join_45, ↓hk103, ↓hf103_20, ↓hg113, ↓bndi_at me, ↓bndi_at mi, ↓if_pos, ↓if_neg, i32_of, l]
      · rw [if_neg z2] at wi mi
        refine prs_0 (v := -1) h ?_ ?_
        · simp (disch := omega) only [eX10_join, sX10_join_0, sX10_join_1, sX10_join_4, sX10_join_7, sX10_join_8, sX10_join_11, sX10_join_14, sX10_join_15, sX10_join_16, sX10_join_17, sX10_join_20, sX10_join_23, sX10_join_24, sX10_join_25, sX10_join_26, sX10_join_29, sX10_join_30, sX10_join_33, sX10_join_34, sX10_join_37, sX10_join_39, sX10_join_40, sX10_join_41, sX10_join_44, ↓hk1, ↓bndi_at hs, ↓bndi_at ie, ↓bndi_at wi, ↓if_pos, ↓if_neg]
        · simp (disch := omega) only [eX11_join, sX11_join_0, sX11_join_1, sX11_join_2, sX11_join_5, sX11_join_8, sX11_join_9, sX11_join_10, sX11_join_11, sX11_join_12, sX11_join_15, sX11_join_18, sX11_join_19, sX11_join_20, sX11_join_21, sX11_join_24, sX11_join_25, sX11_join_28, sX11_join_30, sX11_join_31, sX11_join_32, sX11_join_33, sX11_join_36, sX11_join_37, sX11_join_40, sX11_join_42, sX11_join_43, sX11_join_44, sX11_join_45, ↓hk103, ↓bndi_at me, ↓bndi_at mi, ↓if_pos, ↓if_neg]
    · rw [if_neg z1] at ie
      rw [if_neg (fun q => z1 q.2)] at me
      refine prs_0 (v := -1) h ?_ ?_
      · simp (disch := omega) only [eX10_join, sX10_join_0, sX10_join_1, sX10_join_4, sX10_join_7, sX10_join_8, sX10_join_11, sX10_join_14, sX10_join_15, sX10_join_16, sX10_join_17, sX10_join_20, sX10_join_23, sX10_join_24, sX10_join_25, sX10_join_26, sX10_join_29, sX10_join_30, sX10_join_33, sX10_join_34, sX10_join_37, sX10_join_39, sX10_join_40, sX10_join_41, sX10_join_44, ↓hk1, ↓bndi_at hs, ↓bndi_at ie, ↓if_pos, ↓if_neg]
      · simp (disch := omega) only [eX11_join, sX11_join_0, sX11_join_1, sX11_join_2, sX11_join_5, sX11_join_8, sX11_join_9, sX11_join_10, sX11_join_11, sX11_join_12, sX11_join_15, sX11_join_18, sX11_join_19, sX11_join_20, sX11_join_21, sX11_join_24, sX11_join_25, sX11_join_28, sX11_join_30, sX11_join_31, sX11_join_32, sX11_join_33, sX11_join_36, sX11_join_37, sX11_join_40, sX11_join_42, sX11_join_43, sX11_join_44, sX11_join_45, ↓hk103, ↓bndi_at me, ↓if_pos, ↓if_neg]
  · rw [if_neg z] at hs
    rw [if_neg (fun q => z (b.2.2.2.2.1.mp q.1))] at me
    refine prs_0 (v := -1) h ?_ ?_
    · simp (disch := omega) only [eX10_join, sX10_join_0, sX10_join_1, sX10_join_4, sX10_join_7, sX10_join_8, sX10_join_11, sX10_join_14, sX10_join_15, sX10_join_16, sX10_join_17, sX10_join_20, sX10_join_23, sX10_join_24, sX10_join_25, sX10_join_26, sX10_join_29, sX10_join_30, sX10_join_33, sX10_join_34, sX10_join_37, sX10_join_39, sX10_join_40, sX10_join_41, sX10_join_44, ↓hk1, ↓bndi_at hs, ↓if_pos, ↓if_neg]
    · simp (disch := omega) only [eX11_join, sX11_join_0, sX11_join_1, sX11_join_2, sX11_join_5, sX11_join_8, sX11_join_9, sX11_join_10, sX11_join_11, sX11_join_12, sX11_join_15, sX11_join_18, sX11_join_19, sX11_join_20, sX11_join_21, sX11_join_24, sX11_join_25, sX11_join_28, sX11_join_30, sX11_join_31, sX11_join_32, sX11_join_33, sX11_join_36, sX11_join_37, sX11_join_40, sX11_join_42, sX11_join_43, sX11_join_44, sX11_join_45, ↓hk103, ↓bndi_at me, ↓if_pos, ↓if_neg]
theorem k_stoneIn {c : Int} (h : inv A F E) : prs mX10_stoneIn mX11_stoneIn [vi c] A F E := by
  have hS := h.2.2.2.1
  have b := iS_b hS
  have ic := E_isCell (A := A) (F := F) (E := E) (c := c) b.1.1 b.1.2
  have mc := m_isCell (A := A) (F := F) (E := E) (c := c) (by rw [b.2.2.1]; exact b.1.1) (by rw [b.2.2.1]; exact b.1.2)
  rw [b.2.2.1] at mc
  have q := sq_b b.1.1 b.1.2
  by_cases z : 0 ≤ c ∧ c < A 13 0 * A 13 0
  · rw [if_pos z] at ic mc
    have z0 : 0 < A 13 0 := by
      by_cases y : A 13 0 = 0
      · rw [y] at z; omega
      · omega
    obtain ⟨G, r⟩ := b.2.2.2.2.2.2.mp z0
    have l := sd_s r.2.2.2.1 (c := c.toNat) (by omega)
    rw [show 50 + c.toNat = (50 + c).toNat by omega, show 11 + c.toNat = (11 + c).toNat by omega] at l
    have g : cl mX9_get [vr 12, vi (11 + c)] (HP A F E) = some (vi (A 13 (11 + c).toNat), HP A F E) := h_get wad_12 (by omega) (by omega)
    refine prs_0 (v := A 13 (11 + c).toNat) h ?_ ?_
    · simp (disch := omega) only [eX10_stoneIn, sX10_stoneIn_0, sX10_stoneIn_1, sX10_stoneIn_2, sX10_stoneIn_5, sX10_stoneIn_8, sX10_stoneIn_9, sX10_stoneIn_10, sX10_stoneIn_11, sX10_stoneIn_14, sX10_stoneIn_16, sX10_stoneIn_17, sX10_stoneIn_18, sX10_stoneIn_21, ↓hk1, ↓hf1_8, ↓hk12, ↓bndi_at ic, ↓bndi_at g, ↓if_pos, ↓if_neg, i32_of]
    · simp (disch := omega) only [eX11_stoneIn, sX11_stoneIn_0, sX11_stoneIn_1, sX11_stoneIn_2, sX11_stoneIn_5, sX11_stoneIn_8, sX11_stoneIn_9, sX11_stoneIn_12, sX11_stoneIn_14, sX11_stoneIn_15, sX11_stoneIn_16, sX11_stoneIn_17, sX11_stoneIn_20, sX11_stoneIn_21, ↓hk103, ↓hf103_20, ↓hg113, ↓bndi_at mc, ↓if_pos, ↓if_neg, i32_of, l]
  · rw [if_neg z] at ic mc
    refine prs_0 (v := -1) h ?_ ?_
    · simp (disch := omega) only [eX10_stoneIn, sX10_stoneIn_0, sX10_stoneIn_1, sX10_stoneIn_2, sX10_stoneIn_5, sX10_stoneIn_8, sX10_stoneIn_9, sX10_stoneIn_10, sX10_stoneIn_11, sX10_stoneIn_14, sX10_stoneIn_16, sX10_stoneIn_17, sX10_stoneIn_18, sX10_stoneIn_21, ↓hk1, ↓bndi_at ic, ↓if_pos, ↓if_neg]
    · simp (disch := omega) only [eX11_stoneIn, sX11_stoneIn_0, sX11_stoneIn_1, sX11_stoneIn_2, sX11_stoneIn_5, sX11_stoneIn_8, sX11_stoneIn_9, sX11_stoneIn_12, sX11_stoneIn_14, sX11_stoneIn_15, sX11_stoneIn_16, sX11_stoneIn_17, sX11_stoneIn_20, sX11_stoneIn_21, ↓hk103, ↓bndi_at mc, ↓if_pos, ↓if_neg]
theorem txs_HP {L p s kd va : Int} : txs (HP A F E) 2 3 L p s kd va = HP A (aup F 2 (fup (fup (fup (fup (fup (F 2) 1 L) 2 p) 3 s) 4 kd) 5 va)) E := zup_HPf rfl
theorem HP_txs : HP A F E = txs (HP A F E) 2 3 (F 2 1) (F 2 2) (F 2 3) (F 2 4) (F 2 5) := (t_id rfl).symm
theorem fup5 {f : Nat → Int} {L : Int} : fup (fup (fup (fup (fup f 1 L) 2 (f 2)) 3 (f 3)) 4 (f 4)) 5 (f 5) = fup f 1 L := by
  funext j
  by_cases h5 : j = 5
  · subst h5; simp [fup]
  · by_cases h4 : j = 4
    · subst h4; simp [fup]
    · by_cases h3 : j = 3
      · subst h3; simp [fup]
      · by_cases h2 : j = 2
        · subst h2; simp [fup]
        · simp [fup, h2, h3, h4, h5]
theorem h_cut {v : Int} : cl mX8_cutTo [vr 2, vi v] (HP A F E) = some (vn, HP A (aup F 2 (fup (F 2) 1 v)) E) := by
  rw [HP_txs, T_cutTo, txs_HP, fup5]
theorem h_len : cl mX8_length [vr 2] (HP A F E) = some (vi (F 2 1), HP A F E) := by
  rw [HP_txs, T_length, ← HP_txs]
theorem k_end {n : Int} (h : inv A F E) : prs mX10_end mX11_end [vi n] A F E := by
  have h' := h
  obtain ⟨hT, hR, hW, hS, hH, hI⟩ := h
  have w := E_within (v := n) (lo := 0) (hi := F 2 1) (h := HP A F E)
  obtain ⟨t1, t2, t3, t4, t5, t6⟩ := hT
  by_cases z : 0 ≤ n ∧ n ≤ F 2 1
  · rw [if_pos z] at w
    refine ⟨n, A, aup F 2 (fup (F 2) 1 n), E, A, aup (aup F 2 (fup (F 2) 1 n)) 103 (fup (F 103) 1 n), E, ?_, ?_, ⟨?_, ?_, hW, ?_, ?_, ?_⟩, rfl⟩
    · simp (disch := omega) only [eX10_end, sX10_end_0, sX10_end_1, sX10_end_2, sX10_end_3, sX10_end_6, sX10_end_9, sX10_end_12, sX10_end_15, sX10_end_16, sX10_end_17, sX10_end_18, sX10_end_21, sX10_end_22, sX10_end_25, sX10_end_26, ↓hk1, ↓hf1_0, ↓hk2, ↓bndi_at h_len, ↓bndi_at w, ↓bndv_at h_cut, ↓if_pos, ↓if_neg]
    · simp (disch := omega) only [eX11_end, sX11_end_0, sX11_end_1, sX11_end_4, sX11_end_5, sX11_end_6, sX11_end_9, sX11_end_12, sX11_end_13, sX11_end_14, sX11_end_15, sX11_end_16, sX11_end_19, sX11_end_20, ↓hf103_1, ↓hp103_1, aup_n, t2, ↓if_pos, ↓if_neg]
    · unfold iT
      simp (disch := omega) only [aup_s, aup_n, fup_s, fup_n]
      exact ⟨by omega, by trivial, t3, fun j hj => t4 j (by omega), t5, t6⟩
    · obtain ⟨r1, r2, r3, r4, r5, r6, r7, r8, r9⟩ := hR
      refine ⟨r1, r2, ?_, ?_, ?_, ?_, ?_, ?_, r9⟩ <;> simp (disch := omega) only [aup_s, aup_n, fup_s, fup_n] <;> first | assumption | omega
    · show SR _ _ _ _ _ (aup (aup F 2 _) 103 _ 16 3) _
      rw [aup_n (by omega), aup_n (by omega)]; exact hS
    · exact iH_f hH (fun _ _ => rfl) (by rw [aup_n (by omega), aup_n (by omega)]) (by first | rfl | (simp (disch := omega) only [aup_s, aup_n, fup_s, fup_n]))
    · exact iI_f hI (fun _ _ => rfl) (fun j _ _ => by rw [aup_n (by omega), aup_n (by omega)])
  · rw [if_neg z] at w
    refine prs_0 (v := -1) h' ?_ ?_
    · simp (disch := omega) only [eX10_end, sX10_end_0, sX10_end_1, sX10_end_2, sX10_end_3, sX10_end_6, sX10_end_9, sX10_end_12, sX10_end_15, sX10_end_16, sX10_end_17, sX10_end_18, sX10_end_21, sX10_end_22, sX10_end_25, sX10_end_26, ↓hk1, ↓hf1_0, ↓hk2, ↓bndi_at h_len, ↓bndi_at w, ↓if_pos, ↓if_neg]
    · by_cases y : n < 0
      · simp (disch := omega) only [eX11_end, sX11_end_0, sX11_end_1, sX11_end_4, sX11_end_5, sX11_end_6, sX11_end_9, sX11_end_12, sX11_end_13, sX11_end_14, sX11_end_15, sX11_end_16, sX11_end_19, sX11_end_20, ↓hf103_1, ↓hp103_1, t2, ↓if_pos, ↓if_neg]
      · simp (disch := omega) only [eX11_end, sX11_end_0, sX11_end_1, sX11_end_4, sX11_end_5, sX11_end_6, sX11_end_9, sX11_end_12, sX11_end_13, sX11_end_14, sX11_end_15, sX11_end_16, sX11_end_19, sX11_end_20, ↓hf103_1, ↓hp103_1, t2, ↓if_pos, ↓if_neg]
end K1
