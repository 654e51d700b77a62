/-! acts: way, stone, fold, undo, step -/
section SL
variable {s f : Nat → Int} {G : Nat} {v : Int}
theorem sdr_st {c : Nat} (h : sdr s f) (hc : c < 36) : sdr (fup s (50 + c) v) (fup f (11 + c) v) := by
  refine ⟨by rw [fup_n (by omega), fup_n (by omega)]; exact h.1, by rw [fup_n (by omega), fup_n (by omega)]; exact h.2.1, fun e he => by rw [fup_n (by omega), fup_n (by omega)]; exact h.2.2.1 e he, ?_, ?_, ?_, ?_⟩
  · show fup s (50 + c) v (10 + 0) = _
    rw [fup_n (by omega), fup_n (by omega)]; exact h.2.2.2.1
  · intro e he
    show fup s (50 + c) v (10 + (36 + e)) = _
    rw [fup_n (by omega), fup_n (by omega)]; exact h.2.2.2.2.1 e he
  · intro c' hc'
    show fup s (50 + c) v (10 + (40 + c')) = _
    by_cases q : c' = c
    · subst q; rw [show 10 + (40 + c') = 50 + c' by omega, fup_s, fup_s]
    · rw [fup_n (by omega), fup_n (by omega)]; exact h.2.2.2.2.2.1 c' hc'
  · intro i hi
    have := h.2.2.2.2.2.2 i hi
    unfold sdg at this ⊢
    simp (disch := omega) only [fup_n]
    exact this
theorem sdr_ld {c : Nat} (h : sdr s f) (hc : c < 4) : sdr (fup s (46 + c) v) (fup f (3 + c) v) := by
  refine ⟨by rw [fup_n (by omega), fup_n (by omega)]; exact h.1, by rw [fup_n (by omega), fup_n (by omega)]; exact h.2.1, fun e he => by rw [fup_n (by omega), fup_n (by omega)]; exact h.2.2.1 e he, ?_, ?_, ?_, ?_⟩
  · show fup s (46 + c) v (10 + 0) = _
    rw [fup_n (by omega), fup_n (by omega)]; exact h.2.2.2.1
  · intro c' hc'
    show fup s (46 + c) v (10 + (36 + c')) = _
    by_cases q : c' = c
    · subst q; rw [show 10 + (36 + c') = 46 + c' by omega, fup_s, fup_s]
    · rw [fup_n (by omega), fup_n (by omega)]; exact h.2.2.2.2.1 c' hc'
  · intro e he
    show fup s (46 + c) v (10 + (40 + e)) = _
    rw [fup_n (by omega), fup_n (by omega)]; exact h.2.2.2.2.2.1 e he
  · intro i hi
    have := h.2.2.2.2.2.2 i hi
    unfold sdg at this ⊢
    simp (disch := omega) only [fup_n]
    exact this
theorem wok_st {c : Nat} (h : wok f G) (hc : c < 36) (hv : 0 ≤ v ∧ v ≤ 1) : wok (fup f (11 + c) v) G := by
  obtain ⟨h1, h2, h3, h4, h5, h6, h7⟩ := h
  refine ⟨by rw [fup_n (by omega)]; exact h1, h2, by rw [fup_n (by omega)]; exact h3, fun e he => by rw [fup_n (by omega)]; exact h4 e he, fun e he => by rw [fup_n (by omega)]; exact h5 e he, fun c' hc' => ?_, fun k hk => ?_⟩
  · by_cases q : c' = c
    · subst q; rw [fup_s]; exact hv
    · rw [fup_n (by omega)]; exact h6 c' hc'
  · have := h7 k hk
    unfold gok at this ⊢
    simp (disch := omega) only [fup_n]
    exact this
theorem wok_ld {c : Nat} (h : wok f G) (hc : c < 4) (hv : 0 ≤ v ∧ v ≤ 3) : wok (fup f (3 + c) v) G := by
  obtain ⟨h1, h2, h3, h4, h5, h6, h7⟩ := h
  refine ⟨by rw [fup_n (by omega)]; exact h1, h2, by rw [fup_n (by omega)]; exact h3, fun c' hc' => ?_, fun e he => by rw [fup_n (by omega)]; exact h5 e he, fun e he => by rw [fup_n (by omega)]; exact h6 e he, fun k hk => ?_⟩
  · by_cases q : c' = c
    · subst q; rw [fup_s]; exact hv
    · rw [fup_n (by omega)]; exact h4 c' hc'
  · have := h7 k hk
    unfold gok at this ⊢
    simp (disch := omega) only [fup_n]
    exact this
end SL
section AC3
variable {A F : Nat → Nat → Int} {E : zE}
theorem k_way {g m : Int} (h : inv A F E) : prs mX10_way mX11_way [vi g, vi m] A F E := by
  have b := iS_b h.2.2.2.1
  have n1 := inv_nx h
  have io := E_isOn (A := A) (F := F) (E := E) (g := g) b.2.1.1 b.2.1.2
  have mg := m_isGoer (A := A) (F := F) (E := E) (g := g)
  rw [b.2.2.2.1] at mg
  have wi := E_isEdge (e := m) (h := HP A F E)
  have mi := fun H => m_in (v := m) (lo := 0) (hi := 3) (h := H)
  by_cases z : 0 ≤ g ∧ g < A 13 1
  · obtain ⟨G, r⟩ := b.2.2.2.2.2.2.mp (b.2.2.2.2.2.1 (by omega))
    have ho := r.1
    obtain ⟨n, rfl⟩ : ∃ n : Nat, g = (n : Int) := ⟨g.toNat, by omega⟩
    have hG : A 13 1 = (G : Int) := ho.1
    have hG5 := ho.2.1
    have gk := ho.2.2.2.2.2.2 n (by omega)
    unfold gok at gk
    have sg := sd_g r.2.2.2.1 (g := n) (by omega)
    rw [if_pos z] at mg
    rw [show (47 + 7 * (n : Int) + 3).toNat = 50 + 7 * n by omega] at io
    have mo := m_isOn (A := A) (F := F) (E := E) (g := n) (by omega)
    rw [sg.2.2.1] at mo
    by_cases z2 : A 13 (50 + 7 * n) = 0
    · rw [if_pos ⟨z, z2⟩] at io
      rw [if_pos z2] at mo
      by_cases z3 : 0 ≤ m ∧ m ≤ 3
      · rw [if_pos z3] at wi
        have fc : cl mX9_of [vr 12, vi (n : Int), vi 1] (HP A F E) = some (vi (A 13 (48 + 7 * n)), HP A F E) := by
          rw [h_of wad_12 (by omega) (by omega) (by omega) (by omega), show (47 + 7 * (n : Int) + 1).toNat = 48 + 7 * n by omega]
        have mf := m_facesOf (A := A) (F := F) (E := E) (g := n) (by omega)
        rw [sg.1] at mf
        by_cases z4 : A 13 (48 + 7 * n) = m
        · have mi' := mi (HP A F E)
          rw [if_pos z3] at mi'
          refine prs_0 (v := -1) h ?_ ?_
          · simp (disch := omega) only [eX10_way, sX10_way_0, sX10_way_1, sX10_way_2, sX10_way_5, sX10_way_8, sX10_way_9, sX10_way_12, sX10_way_15, sX10_way_16, sX10_way_19, sX10_way_20, sX10_way_21, sX10_way_24, sX10_way_25, sX10_way_28, sX10_way_29, sX10_way_30, sX10_way_31, sX10_way_34, sX10_way_35, sX10_way_38, sX10_way_41, sX10_way_42, sX10_way_45, sX10_way_46, sX10_way_47, sX10_way_50, sX10_way_51, sX10_way_52, sX10_way_55, sX10_way_56, sX10_way_57, sX10_way_58, sX10_way_61, sX10_way_62, ↓hk1, ↓hf1_8, ↓hk12, ↓bndi_at io, ↓bndi_at wi, ↓bndi_at fc, z4, ↓if_pos, ↓if_neg]
          · simp (disch := omega) only [eX11_way, sX11_way_0, sX11_way_1, sX11_way_2, sX11_way_5, sX11_way_8, sX11_way_9, sX11_way_10, sX11_way_13, sX11_way_16, sX11_way_17, sX11_way_18, sX11_way_19, sX11_way_22, sX11_way_25, sX11_way_28, sX11_way_29, sX11_way_30, sX11_way_33, sX11_way_34, sX11_way_37, sX11_way_38, sX11_way_39, sX11_way_40, sX11_way_43, sX11_way_44, sX11_way_45, sX11_way_48, sX11_way_49, sX11_way_50, sX11_way_53, sX11_way_55, sX11_way_57, sX11_way_58, sX11_way_59, sX11_way_60, sX11_way_61, sX11_way_62, sX11_way_63, sX11_way_64, sX11_way_65, ↓hk103, ↓bndi_at mg, ↓bndi_at mo, ↓bndi_at mi', ↓bndi_at mf, z4, ↓if_pos, ↓if_neg]
        · have fd : cl mX9_of [vr 12, vi (n : Int), vi 1] (HP (kpA A F) (kpF F) E) = some (vi (A 13 (48 + 7 * n)), HP (kpA A F) (kpF F) E) := by
            rw [h_of wad_12 (by omega) (by omega) (by omega) (by omega), show (47 + 7 * (n : Int) + 1).toNat = 48 + 7 * n by omega, kpA_o n1.1 (by omega)]
          have pt : cl mX9_put [vr 12, vi (n : Int), vi 1, vi m] (HP (kpA A F) (kpF F) E) = some (vn, HP (aup (kpA A F) 13 (fup (A 13) (48 + 7 * n) m)) (kpF F) E) := by
            rw [h_put wad_12 (by omega) (by omega) (by omega) (by omega), show (47 + 7 * (n : Int) + 1).toNat = 48 + 7 * n by omega, kpA_o n1.1 (by omega)]
          refine act_prs (G := G) (v := A 13 (48 + 7 * n)) (f' := fup (A 13) (48 + 7 * n) m) (s' := fup (A 113) (12 + 7 * n) m) h r (wturn_ok ho (by omega) z3) (cn_up (h.2.2.1.1 12 wad_12) (by omega)) ⟨fup_n (by omega), fup_n (by omega), fun e he => fup_n (by omega)⟩ (by rw [fup_n (by omega)]; exact r.2.2.2.2.2.2.2.2.2.2) ?_ (fun j hj => fup_n (by omega)) ?_ ?_
          · refine sdr_at (g := n) r.2.2.2.1 (by omega) (fun j hj => fup_n (by omega)) (fun j hj => fup_n (by omega)) ?_
            simp (disch := omega) only [fup_s, fup_n]
            exact ⟨by trivial, sg.2⟩
          · simp (disch := omega) only [eX10_way, sX10_way_0, sX10_way_1, sX10_way_2, sX10_way_5, sX10_way_8, sX10_way_9, sX10_way_12, sX10_way_15, sX10_way_16, sX10_way_19, sX10_way_20, sX10_way_21, sX10_way_24, sX10_way_25, sX10_way_28, sX10_way_29, sX10_way_30, sX10_way_31, sX10_way_34, sX10_way_35, sX10_way_38, sX10_way_41, sX10_way_42, sX10_way_45, sX10_way_46, sX10_way_47, sX10_way_50, sX10_way_51, sX10_way_52, sX10_way_55, sX10_way_56, sX10_way_57, sX10_way_58, sX10_way_61, sX10_way_62, ↓hk1, ↓hf1_8, ↓hf1_11, ↓hk12, ↓hk20, ↓bndi_at io, ↓bndi_at wi, ↓bndi_at fc, z4, ↓bndv_at (h_keep' h), ↓bndi_at fd, ↓bndv_at pt, ↓if_pos, ↓if_neg]
          · intro W kp
            have mg' := m_isGoer (A := aup (kpA A F) 13 (fup (A 13) (48 + 7 * n) m)) (F := kpF F) (E := E) (g := (n : Int))
            have mo' := m_isOn (A := aup (kpA A F) 13 (fup (A 13) (48 + 7 * n) m)) (F := kpF F) (E := E) (g := n) (by omega)
            have mf' := m_facesOf (A := aup (kpA A F) 13 (fup (A 13) (48 + 7 * n) m)) (F := kpF F) (E := E) (g := n) (by omega)
            have mf2 := m_facesOf (A := aup (aup (kpA A F) 13 (fup (A 13) (48 + 7 * n) m)) 114 W) (F := kpM F) (E := E) (g := n) (by omega)
            rw [aup_n (by omega), kpA_o n1.1 (by omega)] at mg' mo' mf'
            rw [aup_n (by omega), aup_n (by omega), kpA_o n1.1 (by omega), sg.1] at mf2
            rw [b.2.2.2.1, if_pos z] at mg'
            rw [sg.2.2.1, if_pos z2] at mo'
            rw [sg.1] at mf'
            have mi' := mi (HP (aup (kpA A F) 13 (fup (A 13) (48 + 7 * n) m)) (kpF F) E)
            rw [if_pos z3] at mi'
            have x2 : (11 + 7 * (n : Int) + 1).toNat = 12 + 7 * n := by omega
            simp (disch := omega) only [eX11_way, sX11_way_0, sX11_way_1, sX11_way_2, sX11_way_5, sX11_way_8, sX11_way_9, sX11_way_10, sX11_way_13, sX11_way_16, sX11_way_17, sX11_way_18, sX11_way_19, sX11_way_22, sX11_way_25, sX11_way_28, sX11_way_29, sX11_way_30, sX11_way_33, sX11_way_34, sX11_way_37, sX11_way_38, sX11_way_39, sX11_way_40, sX11_way_43, sX11_way_44, sX11_way_45, sX11_way_48, sX11_way_49, sX11_way_50, sX11_way_53, sX11_way_55, sX11_way_57, sX11_way_58, sX11_way_59, sX11_way_60, sX11_way_61, sX11_way_62, sX11_way_63, sX11_way_64, sX11_way_65, ↓hk103, ↓hf103_20, ↓hs113, ↓bndi_at mg', ↓bndi_at mo', ↓bndi_at mi', ↓bndv_at kp, ↓bndi_at mf', ↓bndi_at mf2, ↓if_pos, ↓if_neg, i32_of, x2, aup_n, kpA_o n1.1]
      · rw [if_neg z3] at wi
        have mi' := mi (HP A F E)
        rw [if_neg z3] at mi'
        refine prs_0 (v := -1) h ?_ ?_
        · simp (disch := omega) only [eX10_way, sX10_way_0, sX10_way_1, sX10_way_2, sX10_way_5, sX10_way_8, sX10_way_9, sX10_way_12, sX10_way_15, sX10_way_16, sX10_way_19, sX10_way_20, sX10_way_21, sX10_way_24, sX10_way_25, sX10_way_28, sX10_way_29, sX10_way_30, sX10_way_31, sX10_way_34, sX10_way_35, sX10_way_38, sX10_way_41, sX10_way_42, sX10_way_45, sX10_way_46, sX10_way_47, sX10_way_50, sX10_way_51, sX10_way_52, sX10_way_55, sX10_way_56, sX10_way_57, sX10_way_58, sX10_way_61, sX10_way_62, ↓hk1, ↓hf1_8, ↓hk12, ↓bndi_at io, ↓bndi_at wi, ↓if_pos, ↓if_neg]
        · simp (disch := omega) only [eX11_way, sX11_way_0, sX11_way_1, sX11_way_2, sX11_way_5, sX11_way_8, sX11_way_9, sX11_way_10, sX11_way_13, sX11_way_16, sX11_way_17, sX11_way_18, sX11_way_19, sX11_way_22, sX11_way_25, sX11_way_28, sX11_way_29, sX11_way_30, sX11_way_33, sX11_way_34, sX11_way_37, sX11_way_38, sX11_way_39, sX11_way_40, sX11_way_43, sX11_way_44, sX11_way_45, sX11_way_48, sX11_way_49, sX11_way_50, sX11_way_53, sX11_way_55, sX11_way_57, sX11_way_58, sX11_way_59, sX11_way_60, sX11_way_61, sX11_way_62, sX11_way_63, sX11_way_64, sX11_way_65, ↓hk103, ↓bndi_at mg, ↓bndi_at mo, ↓bndi_at mi', ↓if_pos, ↓if_neg]
    · rw [if_neg (fun q => z2 q.2)] at io
      rw [if_neg z2] at mo
      refine prs_0 (v := -1) h ?_ ?_
      · simp (disch := omega) only [eX10_way, sX10_way_0, sX10_way_1, sX10_way_2, sX10_way_5, sX10_way_8, sX10_way_9, sX10_way_12, sX10_way_15, sX10_way_16, sX10_way_19, sX10_way_20, sX10_way_21, sX10_way_24, sX10_way_25, sX10_way_28, sX10_way_29, sX10_way_30, sX10_way_31, sX10_way_34, sX10_way_35, sX10_way_38, sX10_way_41, sX10_way_42, sX10_way_45, sX10_way_46, sX10_way_47, sX10_way_50, sX10_way_51, sX10_way_52, sX10_way_55, sX10_way_56, sX10_way_57, sX10_way_58, sX10_way_61, sX10_way_62, ↓hk1, ↓bndi_at io, ↓if_pos, ↓if_neg]
      · simp (disch := omega) only [eX11_way, sX11_way_0, sX11_way_1, sX11_way_2, sX11_way_5, sX11_way_8, sX11_way_9, sX11_way_10, sX11_way_13, sX11_way_16, sX11_way_17, sX11_way_18, sX11_way_19, sX11_way_22, sX11_way_25, sX11_way_28, sX11_way_29, sX11_way_30, sX11_way_33, sX11_way_34, sX11_way_37, sX11_way_38, sX11_way_39, sX11_way_40, sX11_way_43, sX11_way_44, sX11_way_45, sX11_way_48, sX11_way_49, sX11_way_50, sX11_way_53, sX11_way_55, sX11_way_57, sX11_way_58, sX11_way_59, sX11_way_60, sX11_way_61, sX11_way_62, sX11_way_63, sX11_way_64, sX11_way_65, ↓hk103, ↓bndi_at mg, ↓bndi_at mo, ↓if_pos, ↓if_neg]
  · rw [if_neg (fun q => z q.1)] at io
    rw [if_neg z] at mg
    refine prs_0 (v := -1) h ?_ ?_
    · simp (disch := omega) only [eX10_way, sX10_way_0, sX10_way_1, sX10_way_2, sX10_way_5, sX10_way_8, sX10_way_9, sX10_way_12, sX10_way_15, sX10_way_16, sX10_way_19, sX10_way_20, sX10_way_21, sX10_way_24, sX10_way_25, sX10_way_28, sX10_way_29, sX10_way_30, sX10_way_31, sX10_way_34, sX10_way_35, sX10_way_38, sX10_way_41, sX10_way_42, sX10_way_45, sX10_way_46, sX10_way_47, sX10_way_50, sX10_way_51, sX10_way_52, sX10_way_55, sX10_way_56, sX10_way_57, sX10_way_58, sX10_way_61, sX10_way_62, ↓hk1, ↓bndi_at io, ↓if_pos, ↓if_neg]
    · simp (disch := omega) only [eX11_way, sX11_way_0, sX11_way_1, sX11_way_2, sX11_way_5, sX11_way_8, sX11_way_9, sX11_way_10, sX11_way_13, sX11_way_16, sX11_way_17, sX11_way_18, sX11_way_19, sX11_way_22, sX11_way_25, sX11_way_28, sX11_way_29, sX11_way_30, sX11_way_33, sX11_way_34, sX11_way_37, sX11_way_38, sX11_way_39, sX11_way_40, sX11_way_43, sX11_way_44, sX11_way_45, sX11_way_48, sX11_way_49, sX11_way_50, sX11_way_53, sX11_way_55, sX11_way_57, sX11_way_58, sX11_way_59, sX11_way_60, sX11_way_61, sX11_way_62, sX11_way_63, sX11_way_64, sX11_way_65, ↓hk103, ↓bndi_at mg, ↓if_pos, ↓if_neg]
theorem k_stone {c : Int} (h : inv A F E) : prs mX10_stone mX11_stone [vi c] A F E := by
  have b := iS_b h.2.2.2.1
  have n1 := inv_nx h
  have ic := E_isCell (A := A) (F := F) (E := E) (c := c) b.1.1 b.1.2
  have mc := m_isCell (A := A) (F := F) (E := E) (c := c) (by rw [b.2.2.1]; exact b.1.1) (by rw [b.2.2.1]; exact b.1.2)
  rw [b.2.2.1] at mc
  have q := sq_b b.1.1 b.1.2
  by_cases z : 0 ≤ c ∧ c < A 13 0 * A 13 0
  · rw [if_pos z] at ic
    have z0 : 0 < A 13 0 := by
      by_cases y : A 13 0 = 0
      · rw [y] at z; omega
      · omega
    obtain ⟨G, r⟩ := b.2.2.2.2.2.2.mp z0
    have ho := r.1
    obtain ⟨n, rfl⟩ : ∃ n : Nat, c = (n : Int) := ⟨c.toNat, by omega⟩
    have sv := ho.2.2.2.2.2.1 n (by omega)
    have l := sd_s r.2.2.2.1 (c := n) (by omega)
    have tn : cl mX9_turnStone [vr 12, vi (n : Int)] (HP (kpA A F) (kpF F) E) = some (vn, HP (aup (kpA A F) 13 (fup (A 13) (11 + n) (1 - A 13 (11 + n)))) (kpF F) E) := by
      have e : (11 + (n : Int)).toNat = 11 + n := by omega
      rw [h_turn wad_12 (by omega) (by omega) (by rw [kpA_o n1.1 (by omega), e]; exact sv.1) (by rw [kpA_o n1.1 (by omega), e]; exact sv.2), kpA_o n1.1 (by omega), e]
    have gt : cl mX9_get [vr 12, vi (11 + (n : Int))] (HP (aup (kpA A F) 13 (fup (A 13) (11 + n) (1 - A 13 (11 + n)))) (kpF F) E) = some (vi (1 - A 13 (11 + n)), HP (aup (kpA A F) 13 (fup (A 13) (11 + n) (1 - A 13 (11 + n)))) (kpF F) E) := by
      rw [h_get wad_12 (by omega) (by omega), show (11 + (n : Int)).toNat = 11 + n by omega, aup_s, fup_s]
    refine act_prs (G := G) (v := 1 - A 13 (11 + n)) (f' := fup (A 13) (11 + n) (1 - A 13 (11 + n))) (s' := fup (A 113) (50 + n) (1 - A 13 (11 + n))) h r (wok_st ho (by omega) (by omega)) (cn_up (h.2.2.1.1 12 wad_12) (by omega)) ⟨fup_n (by omega), fup_n (by omega), fun e he => fup_n (by omega)⟩ (by rw [fup_n (by omega)]; exact r.2.2.2.2.2.2.2.2.2.2) (sdr_st r.2.2.2.1 (by omega)) (fun j hj => fup_n (by omega)) ?_ ?_
    · simp (disch := omega) only [eX10_stone, sX10_stone_0, sX10_stone_1, sX10_stone_2, sX10_stone_5, sX10_stone_8, sX10_stone_9, sX10_stone_10, sX10_stone_11, sX10_stone_14, sX10_stone_15, sX10_stone_18, sX10_stone_21, sX10_stone_22, sX10_stone_25, sX10_stone_26, sX10_stone_29, sX10_stone_30, sX10_stone_33, sX10_stone_35, sX10_stone_36, sX10_stone_37, sX10_stone_40, ↓hk1, ↓hf1_8, ↓hf1_11, ↓hk12, ↓hk20, ↓bndi_at ic, ↓bndv_at (h_keep' h), ↓bndv_at tn, ↓bndi_at gt, ↓if_pos, ↓if_neg, i32_of]
    · intro W kp
      have mc' := m_isCell (A := aup (kpA A F) 13 (fup (A 13) (11 + n) (1 - A 13 (11 + n)))) (F := kpF F) (E := E) (c := (n : Int)) (by rw [aup_n (by omega), kpA_o n1.1 (by omega), b.2.2.1]; exact b.1.1) (by rw [aup_n (by omega), kpA_o n1.1 (by omega), b.2.2.1]; exact b.1.2)
      rw [aup_n (by omega), kpA_o n1.1 (by omega), b.2.2.1, if_pos z] at mc'
      have x : (50 + (n : Int)).toNat = 50 + n := by omega
      simp (disch := omega) only [eX11_stone, sX11_stone_0, sX11_stone_1, sX11_stone_2, sX11_stone_5, sX11_stone_8, sX11_stone_9, sX11_stone_10, sX11_stone_11, sX11_stone_14, sX11_stone_15, sX11_stone_18, sX11_stone_20, sX11_stone_21, sX11_stone_22, sX11_stone_23, sX11_stone_24, sX11_stone_27, sX11_stone_29, sX11_stone_30, sX11_stone_31, sX11_stone_32, sX11_stone_33, sX11_stone_34, sX11_stone_35, sX11_stone_38, sX11_stone_40, sX11_stone_41, sX11_stone_42, sX11_stone_43, ↓hk103, ↓hf103_20, ↓hg113, ↓hs113, ↓bndi_at mc', ↓bndv_at kp, ↓if_pos, ↓if_neg, i32_of, x, aup_n, aup_s, kpA_o n1.1, l, fup_s]
  · rw [if_neg z] at ic mc
    refine prs_0 (v := -1) h ?_ ?_
    · simp (disch := omega) only [eX10_stone, sX10_stone_0, sX10_stone_1, sX10_stone_2, sX10_stone_5, sX10_stone_8, sX10_stone_9, sX10_stone_10, sX10_stone_11, sX10_stone_14, sX10_stone_15, sX10_stone_18, sX10_stone_21, sX10_stone_22, sX10_stone_25, sX10_stone_26, sX10_stone_29, sX10_stone_30, sX10_stone_33, sX10_stone_35, sX10_stone_36, sX10_stone_37, sX10_stone_40, ↓hk1, ↓bndi_at ic, ↓if_pos, ↓if_neg]
    · simp (disch := omega) only [eX11_stone, sX11_stone_0, sX11_stone_1, sX11_stone_2, sX11_stone_5, sX11_stone_8, sX11_stone_9, sX11_stone_10, sX11_stone_11, sX11_stone_14, sX11_stone_15, sX11_stone_18, sX11_stone_20, sX11_stone_21, sX11_stone_22, sX11_stone_23, sX11_stone_24, sX11_stone_27, sX11_stone_29, sX11_stone_30, sX11_stone_31, sX11_stone_32, sX11_stone_33, sX11_stone_34, sX11_stone_35, sX11_stone_38, sX11_stone_40, sX11_stone_41, sX11_stone_42, sX11_stone_43, ↓hk103, ↓bndi_at mc, ↓if_pos, ↓if_neg]
theorem k_fold {e m : Int} (h : inv A F E) : prs mX10_fold mX11_fold [vi e, vi m] A F E := by
  have b := iS_b h.2.2.2.1
  have n1 := inv_nx h
  have hs := E_hasSheet (A := A) (F := F) (E := E)
  have ie := E_isEdge (e := e) (h := HP A F E)
  have wi := E_isEdge (e := m) (h := HP A F E)
  have me := m_isEdge (A := A) (F := F) (E := E) (e := e)
  have mi := fun H => m_in (v := m) (lo := 0) (hi := 3) (h := H)
  by_cases z : 0 < A 13 0
  · rw [if_pos z] at hs
    by_cases z1 : 0 ≤ e ∧ e ≤ 3
    · rw [if_pos z1] at ie
      rw [if_pos ⟨b.2.2.2.2.1.mpr z, z1⟩] at me
      by_cases z2 : 0 ≤ m ∧ m ≤ 3
      · rw [if_pos z2] at wi
        obtain ⟨G, r⟩ := b.2.2.2.2.2.2.mp z
        have ho := r.1
        obtain ⟨n, rfl⟩ : ∃ n : Nat, e = (n : Int) := ⟨e.toNat, by omega⟩
        have l := sd_l r.2.2.2.1 (e := n) (by omega)
        have x : (46 + (n : Int)).toNat = 46 + n := by omega
        have x3 : (3 + (n : Int)).toNat = 3 + n := by omega
        have gt := fun (A1 F1 : Nat → Nat → Int) => h_get (A := A1) (F := F1) (E := E) (i := 3 + (n : Int)) wad_12 (by omega) (by omega)
        simp only [x3, Nat.reduceAdd] at gt
        by_cases z3 : A 13 (3 + n) = m
        · have mi' := mi (HP A F E)
          rw [if_pos z2] at mi'
          refine prs_0 (v := -1) h ?_ ?_
          · simp (disch := omega) only [eX10_fold, sX10_fold_0, sX10_fold_1, sX10_fold_4, sX10_fold_7, sX10_fold_8, sX10_fold_11, sX10_fold_14, sX10_fold_15, sX10_fold_18, sX10_fold_21, sX10_fold_22, sX10_fold_25, sX10_fold_26, sX10_fold_27, sX10_fold_28, sX10_fold_31, sX10_fold_32, sX10_fold_35, sX10_fold_36, sX10_fold_37, sX10_fold_38, sX10_fold_41, sX10_fold_42, sX10_fold_45, sX10_fold_48, sX10_fold_49, sX10_fold_52, sX10_fold_53, sX10_fold_54, sX10_fold_55, sX10_fold_58, sX10_fold_59, sX10_fold_60, sX10_fold_63, sX10_fold_64, sX10_fold_65, sX10_fold_66, sX10_fold_67, sX10_fold_70, sX10_fold_71, ↓hk1, ↓hf1_8, ↓hk12, ↓bndi_at hs, ↓bndi_at ie, ↓bndi_at wi, ↓bndi_at (gt A F), ↓if_pos, ↓if_neg, i32_of]
          · simp (disch := omega) only [eX11_fold, sX11_fold_0, sX11_fold_1, sX11_fold_2, sX11_fold_5, sX11_fold_8, sX11_fold_9, sX11_fold_10, sX11_fold_11, sX11_fold_14, sX11_fold_17, sX11_fold_20, sX11_fold_21, sX11_fold_24, sX11_fold_26, sX11_fold_27, sX11_fold_28, sX11_fold_29, sX11_fold_30, sX11_fold_33, sX11_fold_34, sX11_fold_35, sX11_fold_36, sX11_fold_39, sX11_fold_40, sX11_fold_43, sX11_fold_45, sX11_fold_46, sX11_fold_47, sX11_fold_48, sX11_fold_49, sX11_fold_50, sX11_fold_53, sX11_fold_55, sX11_fold_56, sX11_fold_57, sX11_fold_58, sX11_fold_59, sX11_fold_60, ↓hk103, ↓hf103_20, ↓hg113, ↓bndi_at me, ↓bndi_at mi', ↓if_pos, ↓if_neg, i32_of, x, l]
        · have g2 := gt (kpA A F) (kpF F)
          rw [kpA_o n1.1 (by omega)] at g2
          have st : cl mX9_set [vr 12, vi (3 + (n : Int)), vi m] (HP (kpA A F) (kpF F) E) = some (vn, HP (aup (kpA A F) 13 (fup (A 13) (3 + n) m)) (kpF F) E) := by
            rw [h_set wad_12 (by omega) (by omega), x3, kpA_o n1.1 (by omega)]
          refine act_prs (G := G) (v := A 13 (3 + n)) (f' := fup (A 13) (3 + n) m) (s' := fup (A 113) (46 + n) m) h r (wok_ld ho (by omega) z2) (cn_up (h.2.2.1.1 12 wad_12) (by omega)) ⟨fup_n (by omega), fup_n (by omega), fun e he => fup_n (by omega)⟩ (by rw [fup_n (by omega)]; exact r.2.2.2.2.2.2.2.2.2.2) (sdr_ld r.2.2.2.1 (by omega)) (fun j hj => fup_n (by omega)) ?_ ?_
          · simp (disch := omega) only [eX10_fold, sX10_fold_0, sX10_fold_1, sX10_fold_4, sX10_fold_7, sX10_fold_8, sX10_fold_11, sX10_fold_14, sX10_fold_15, sX10_fold_18, sX10_fold_21, sX10_fold_22, sX10_fold_25, sX10_fold_26, sX10_fold_27, sX10_fold_28, sX10_fold_31, sX10_fold_32, sX10_fold_35, sX10_fold_36, sX10_fold_37, sX10_fold_38, sX10_fold_41, sX10_fold_42, sX10_fold_45, sX10_fold_48, sX10_fold_49, sX10_fold_52, sX10_fold_53, sX10_fold_54, sX10_fold_55, sX10_fold_58, sX10_fold_59, sX10_fold_60, sX10_fold_63, sX10_fold_64, sX10_fold_65, sX10_fold_66, sX10_fold_67, sX10_fold_70, sX10_fold_71, ↓hk1, ↓hf1_8, ↓hf1_11, ↓hk12, ↓hk20, ↓bndi_at hs, ↓bndi_at ie, ↓bndi_at wi, ↓bndi_at (gt A F), ↓bndv_at (h_keep' h), ↓bndi_at g2, ↓bndv_at st, ↓if_pos, ↓if_neg, i32_of]
          · intro W kp
            have me' := m_isEdge (A := aup (kpA A F) 13 (fup (A 13) (3 + n) m)) (F := kpF F) (E := E) (e := (n : Int))
            rw [aup_n (by omega), kpA_o n1.1 (by omega), if_pos ⟨b.2.2.2.2.1.mpr z, z1⟩] at me'
            have mi' := mi (HP (aup (kpA A F) 13 (fup (A 13) (3 + n) m)) (kpF F) E)
            rw [if_pos z2] at mi'
            simp (disch := omega) only [eX11_fold, sX11_fold_0, sX11_fold_1, sX11_fold_2, sX11_fold_5, sX11_fold_8, sX11_fold_9, sX11_fold_10, sX11_fold_11, sX11_fold_14, sX11_fold_17, sX11_fold_20, sX11_fold_21, sX11_fold_24, sX11_fold_26, sX11_fold_27, sX11_fold_28, sX11_fold_29, sX11_fold_30, sX11_fold_33, sX11_fold_34, sX11_fold_35, sX11_fold_36, sX11_fold_39, sX11_fold_40, sX11_fold_43, sX11_fold_45, sX11_fold_46, sX11_fold_47, sX11_fold_48, sX11_fold_49, sX11_fold_50, sX11_fold_53, sX11_fold_55, sX11_fold_56, sX11_fold_57, sX11_fold_58, sX11_fold_59, sX11_fold_60, ↓hk103, ↓hf103_20, ↓hg113, ↓hs113, ↓bndi_at me', ↓bndi_at mi', ↓bndv_at kp, ↓if_pos, ↓if_neg, i32_of, x, aup_n, aup_s, kpA_o n1.1, l]
      · rw [if_neg z2] at wi
        have mi' := mi (HP A F E)
        rw [if_neg z2] at mi'
        refine prs_0 (v := -1) h ?_ ?_
        · simp (disch := omega) only [eX10_fold, sX10_fold_0, sX10_fold_1, sX10_fold_4, sX10_fold_7, sX10_fold_8, sX10_fold_11, sX10_fold_14, sX10_fold_15, sX10_fold_18, sX10_fold_21, sX10_fold_22, sX10_fold_25, sX10_fold_26, sX10_fold_27, sX10_fold_28, sX10_fold_31, sX10_fold_32, sX10_fold_35, sX10_fold_36, sX10_fold_37, sX10_fold_38, sX10_fold_41, sX10_fold_42, sX10_fold_45, sX10_fold_48, sX10_fold_49, sX10_fold_52, sX10_fold_53, sX10_fold_54, sX10_fold_55, sX10_fold_58, sX10_fold_59, sX10_fold_60, sX10_fold_63, sX10_fold_64, sX10_fold_65, sX10_fold_66, sX10_fold_67, sX10_fold_70, sX10_fold_71, ↓hk1, ↓bndi_at hs, ↓bndi_at ie, ↓bndi_at wi, ↓if_pos, ↓if_neg]
        · simp (disch := omega) only [eX11_fold, sX11_fold_0, sX11_fold_1, sX11_fold_2, sX11_fold_5, sX11_fold_8, sX11_fold_9, sX11_fold_10, sX11_fold_11, sX11_fold_14, sX11_fold_17, sX11_fold_20, sX11_fold_21, sX11_fold_24, sX11_fold_26, sX11_fold_27, sX11_fold_28, sX11_fold_29, sX11_fold_30, sX11_fold_33, sX11_fold_34, sX11_fold_35, sX11_fold_36, sX11_fold_39, sX11_fold_40, sX11_fold_43, sX11_fold_45, sX11_fold_46, sX11_fold_47, sX11_fold_48, sX11_fold_49, sX11_fold_50, sX11_fold_53, sX11_fold_55, sX11_fold_56, sX11_fold_57, sX11_fold_58, sX11_fold_59, sX11_fold_60, ↓hk103, ↓bndi_at me, ↓bndi_at mi', ↓if_pos, ↓if_neg]
    · rw [if_neg z1] at ie
      rw [if_neg (fun q => z1 q.2)] at me
      refine prs_0 (v := -1) h ?_ ?_
      · simp (disch := omega) only [eX10_fold, sX10_fold_0, sX10_fold_1, sX10_fold_4, sX10_fold_7, sX10_fold_8, sX10_fold_11, sX10_fold_14, sX10_fold_15, sX10_fold_18, sX10_fold_21, sX10_fold_22, sX10_fold_25, sX10_fold_26, sX10_fold_27, sX10_fold_28, sX10_fold_31, sX10_fold_32, sX10_fold_35, sX10_fold_36, sX10_fold_37, sX10_fold_38, sX10_fold_41, sX10_fold_42, sX10_fold_45, sX10_fold_48, sX10_fold_49, sX10_fold_52, sX10_fold_53, sX10_fold_54, sX10_fold_55, sX10_fold_58, sX10_fold_59, sX10_fold_60, sX10_fold_63, sX10_fold_64, sX10_fold_65, sX10_fold_66, sX10_fold_67, sX10_fold_70, sX10_fold_71, ↓hk1, ↓bndi_at hs, ↓bndi_at ie, ↓if_pos, ↓if_neg]
      · simp (disch := omega) only [eX11_fold, sX11_fold_0, sX11_fold_1, sX11_fold_2, sX11_fold_5, sX11_fold_8, sX11_fold_9, sX11_fold_10, sX11_fold_11, sX11_fold_14, sX11_fold_17, sX11_fold_20, sX11_fold_21, sX11_fold_24, sX11_fold_26, sX11_fold_27, sX11_fold_28, sX11_fold_29, sX11_fold_30, sX11_fold_33, sX11_fold_34, sX11_fold_35, sX11_fold_36, sX11_fold_39, sX11_fold_40, sX11_fold_43, sX11_fold_45, sX11_fold_46, sX11_fold_47, sX11_fold_48, sX11_fold_49, sX11_fold_50, sX11_fold_53, sX11_fold_55, sX11_fold_56, sX11_fold_57, sX11_fold_58, sX11_fold_59, sX11_fold_60, ↓hk103, ↓bndi_at me, ↓if_pos, ↓if_neg]
  · rw [if_neg z] at hs
    rw [if_neg (fun q => z (b.2.2.2.2.1.mp q.1))] at me
    refine prs_0 (v := -1) h ?_ ?_
    · simp (disch := omega) only [eX10_fold, sX10_fold_0, sX10_fold_1, sX10_fold_4, sX10_fold_7, sX10_fold_8, sX10_fold_11, sX10_fold_14, sX10_fold_15, sX10_fold_18, sX10_fold_21, sX10_fold_22, sX10_fold_25, sX10_fold_26, sX10_fold_27, sX10_fold_28, sX10_fold_31, sX10_fold_32, sX10_fold_35, sX10_fold_36, sX10_fold_37, sX10_fold_38, sX10_fold_41, sX10_fold_42, sX10_fold_45, sX10_fold_48, sX10_fold_49, sX10_fold_52, sX10_fold_53, sX10_fold_54, sX10_fold_55, sX10_fold_58, sX10_fold_59, sX10_fold_60, sX10_fold_63, sX10_fold_64, sX10_fold_65, sX10_fold_66, sX10_fold_67, sX10_fold_70, sX10_fold_71, ↓hk1, ↓bndi_at hs, ↓if_pos, ↓if_neg]
    · simp (disch := omega) only [eX11_fold, sX11_fold_0, sX11_fold_1, sX11_fold_2, sX11_fold_5, sX11_fold_8, sX11_fold_9, sX11_fold_10, sX11_fold_11, sX11_fold_14, sX11_fold_17, sX11_fold_20, sX11_fold_21, sX11_fold_24, sX11_fold_26, sX11_fold_27, sX11_fold_28, sX11_fold_29, sX11_fold_30, sX11_fold_33, sX11_fold_34, sX11_fold_35, sX11_fold_36, sX11_fold_39, sX11_fold_40, sX11_fold_43, sX11_fold_45, sX11_fold_46, sX11_fold_47, sX11_fold_48, sX11_fold_49, sX11_fold_50, sX11_fold_53, sX11_fold_55, sX11_fold_56, sX11_fold_57, sX11_fold_58, sX11_fold_59, sX11_fold_60, ↓hk103, ↓bndi_at me, ↓if_pos, ↓if_neg]
end AC3
