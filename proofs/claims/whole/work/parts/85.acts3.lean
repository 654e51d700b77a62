/-! undo, step -/
section PL
variable {Q : (Int → Int) → Int} {G g : Nat} {f f' : Nat → Int}
theorem ps1_lo {j : Nat} (h : j < 47) : ps1 Q G g f j = f j := by
  unfold ps1 wgo wbo wci
  split
  · split
    · rw [fup_n (by omega), fup_n (by omega), fup_n (by omega), fup_n (by omega), fup_n (by omega), fup_n (by omega)]
    · split
      · rw [fup_n (by omega)]
      · rw [fup_n (by omega), fup_n (by omega)]
  · split
    · split
      · rw [fup_n (by omega), fup_n (by omega)]
      · split
        · rw [fup_n (by omega), fup_n (by omega)]
        · split
          · rw [fup_n (by omega)]
          · rw [fup_n (by omega), fup_n (by omega), fup_n (by omega), fup_n (by omega)]
    · rfl
theorem psR_lo {j : Nat} (h : j < 47) : ∀ (n k : Nat) (f : Nat → Int), psR Q G n k f j = f j
  | 0, _, _ => rfl
  | n + 1, k, f => by rw [psR, psR_lo h n (k + 1), ps1_lo h]
theorem psa_lo {j : Nat} (h : j < 47) (h2 : j ≠ 2) : psa Q G f j = f j := by
  unfold psa
  rw [fup_n h2, psR_lo h]
theorem psa_2 : psa Q G f 2 = i32 (f 2 + 1) := by
  unfold psa
  rw [fup_s, psR_lo (by omega)]
theorem psa_same : same f (psa Q G f) := ⟨psa_lo (by omega) (by omega), psa_lo (by omega) (by omega), fun e he => psa_lo (by omega) (by omega)⟩
theorem bitsN_c {s : Int} : ∀ (n : Nat), (∀ k, k < n → f (50 + 7 * k) = f' (50 + 7 * k)) → bitsN s f n = bitsN s f' n
  | 0, _ => rfl
  | n + 1, h => by rw [bitsN, bitsN, bitsN_c n (fun k hk => h k (by omega)), h n (by omega)]
theorem foodN_c : ∀ (n : Nat), (∀ k, k < n → f (50 + 7 * k) = f' (50 + 7 * k) ∧ f (49 + 7 * k) = f' (49 + 7 * k)) → foodN f n = foodN f' n
  | 0, _ => rfl
  | n + 1, h => by rw [foodN, foodN, foodN_c n (fun k hk => h k (by omega)), (h n (by omega)).1, (h n (by omega)).2]
theorem sd_bits {s : Nat → Int} {v : Int} (h : sdr s f) (hG : G ≤ 5) : bitsN v (fun j => s (j - 36)) G = bitsN v f G := bitsN_c G (fun k hk => by
  show s (50 + 7 * k - 36) = _
  rw [show 50 + 7 * k - 36 = 14 + 7 * k by omega]; exact (sd_g h (by omega)).2.2.1)
theorem sd_food {s : Nat → Int} (h : sdr s f) (hG : G ≤ 5) : foodN (fun j => s (j - 36)) G = foodN f G := foodN_c G (fun k hk => by
  show s (50 + 7 * k - 36) = _ ∧ s (49 + 7 * k - 36) = _
  rw [show 50 + 7 * k - 36 = 14 + 7 * k by omega, show 49 + 7 * k - 36 = 13 + 7 * k by omega]; exact ⟨(sd_g h (by omega)).2.2.1, (sd_g h (by omega)).2.1⟩)
end PL
section AC4
variable {A F : Nat → Nat → Int} {E : zE}
theorem k_undo (h : inv A F E) : prs mX10_undo mX11_undo [] A F E := by
  have h' := h
  obtain ⟨hT, hR, hW, hS, hH, hI⟩ := h
  have hH' := hH
  obtain ⟨h1, h2, h3, h4⟩ := hH
  by_cases z : F 20 2 = 0
  · refine prs_0 (v := -1) h' ?_ ?_
    · have k := H_back0 (h := HP A F E) (s := 20) (w := 21) (now := 12) (nx := F 20 1) (by rw [← z]; rfl)
      simp (disch := omega) only [eX10_undo, sX10_undo_0, sX10_undo_1, sX10_undo_4, sX10_undo_5, sX10_undo_8, sX10_undo_11, ↓hk1, ↓hf1_8, ↓hf1_11, ↓hk20, ↓bndi_at k]
    · simp (disch := omega) only [eX11_undo, sX11_undo_0, sX11_undo_1, sX11_undo_4, sX11_undo_7, sX11_undo_8, sX11_undo_9, sX11_undo_10, sX11_undo_11, sX11_undo_14, sX11_undo_15, sX11_undo_16, sX11_undo_19, sX11_undo_20, sX11_undo_22, sX11_undo_24, sX11_undo_27, sX11_undo_28, sX11_undo_31, sX11_undo_33, sX11_undo_34, sX11_undo_35, sX11_undo_36, sX11_undo_39, sX11_undo_41, sX11_undo_42, sX11_undo_45, sX11_undo_46, sX11_undo_47, sX11_undo_48, sX11_undo_49, sX11_undo_50, sX11_undo_53, sX11_undo_56, sX11_undo_57, sX11_undo_60, ↓hf103_24, h3, z, ↓if_pos, ↓if_neg]
  · have k := h_back (E := E) hH' hW (by omega)
    obtain ⟨u, hu⟩ : ∃ u : Nat, F 20 2 - 1 = (u : Int) := ⟨(F 20 2 - 1).toNat, by omega⟩
    have hx : hix (F 20 1) (F 20 2) u = (hpr (F 20 1)).toNat := by
      unfold hix hpr; split <;> omega
    obtain ⟨G', g1, g2, g3, g4, g5, g6⟩ := h4 u (by omega)
    rw [hx] at g1 g2 g3 g4 g5 g6
    have b := iS_b hS
    obtain ⟨G, r⟩ := b.2.2.2.2.2.2.mp (by have := g1.2.2.1; omega)
    have hG : G' = G := by
      have a1 := g1.1
      have a2 := r.1.1
      omega
    subst hG
    obtain ⟨W, r1, r2⟩ := m_undo_l (E := E) (u := u) (by omega) 76 0 (aup A 13 (A (23 + 2 * (hpr (F 20 1)).toNat))) (aup (aup (aup F 12 (fup (F 12) 1 (-1))) 20 (fup (fup (F 20) 1 (hpr (F 20 1))) 2 (F 20 2 - 1))) 103 (fup (F 103) 24 (u : Int))) (by omega) (by rw [aup_s, fup_s])
    have hb : 0 ≤ hpr (F 20 1) ∧ hpr (F 20 1) < 20 := by unfold hpr; split <;> omega
    have sm : same (A 13) (A (23 + 2 * (hpr (F 20 1)).toNat)) := ⟨g2, g3, g4⟩
    refine ⟨F 20 2 - 1, aup A 13 (A (23 + 2 * (hpr (F 20 1)).toNat)), aup (aup F 12 (fup (F 12) 1 (-1))) 20 (fup (fup (F 20) 1 (hpr (F 20 1))) 2 (F 20 2 - 1)), E, aup (aup A 13 (A (23 + 2 * (hpr (F 20 1)).toNat))) 113 W, aup (aup (aup F 12 (fup (F 12) 1 (-1))) 20 (fup (fup (F 20) 1 (hpr (F 20 1))) 2 (F 20 2 - 1))) 103 (fup (F 103) 24 (u : Int)), E, ?_, ?_, ⟨?_, ?_, ?_, ?_, ?_, ?_⟩, rfl⟩
    · simp (disch := omega) only [eX10_undo, sX10_undo_0, sX10_undo_1, sX10_undo_4, sX10_undo_5, sX10_undo_8, sX10_undo_11, ↓hk1, ↓hf1_8, ↓hf1_11, ↓hk20, ↓bndi_at k]
    · rw [hu]
      have r1' : rn mX11_undo 21 [vr 103, vi 0] [] (HP (aup A 13 (A (23 + 2 * (hpr (F 20 1)).toNat))) (aup (aup (aup F 12 (fup (F 12) 1 (-1))) 20 (fup (fup (F 20) 1 (hpr (F 20 1))) 2 (F 20 2 - 1))) 103 (fup (F 103) 24 (u : Int))) E) = _ := r1
      rw [hu] at r1'
      rw [← r1']
      simp (disch := omega) only [eX11_undo, sX11_undo_0, sX11_undo_1, sX11_undo_4, sX11_undo_7, sX11_undo_8, sX11_undo_9, sX11_undo_10, sX11_undo_11, sX11_undo_14, sX11_undo_15, sX11_undo_16, sX11_undo_19, sX11_undo_20, sX11_undo_22, sX11_undo_24, sX11_undo_27, sX11_undo_28, sX11_undo_31, sX11_undo_33, sX11_undo_34, sX11_undo_35, sX11_undo_36, sX11_undo_39, sX11_undo_41, sX11_undo_42, sX11_undo_45, sX11_undo_46, sX11_undo_47, sX11_undo_48, sX11_undo_49, sX11_undo_50, sX11_undo_53, sX11_undo_56, sX11_undo_57, sX11_undo_60, ↓hf103_24, ↓hp103_24, aup_n, h3, hu, ↓if_pos, ↓if_neg, i32_of]
    · exact iT_f hT (by first | rfl | (simp (disch := omega) only [aup_s, aup_n, fup_s, fup_n])) (by first | rfl | (simp (disch := omega) only [aup_s, aup_n, fup_s, fup_n])) (by first | rfl | (simp (disch := omega) only [aup_s, aup_n, fup_s, fup_n])) (by first | rfl | (simp (disch := omega) only [aup_s, aup_n, fup_s, fup_n]))
    · obtain ⟨r1, r2, r3, r4, r5, r6, r7, r8, r9⟩ := hR
      refine ⟨r1, r2, ?_, ?_, ?_, ?_, ?_, ?_, fun i hi => RU_f (r9 i hi) (by rw [aup_n (by omega), aup_n (by omega)]) (by first | rfl | (simp (disch := omega) only [aup_s, aup_n, fup_s, fup_n])) (by first | rfl | (simp (disch := omega) only [aup_s, aup_n, fup_s, fup_n])) (by first | rfl | (simp (disch := omega) only [aup_s, aup_n, fup_s, fup_n]))⟩ <;> simp (disch := omega) only [aup_s, aup_n, fup_s, fup_n] <;> first | assumption | omega
    · refine ⟨fun a ha => ?_, fun j hj => ?_⟩
      · have := wad_b ha
        by_cases q : a = 12
        · subst q
          rw [aup_n (by omega), aup_s, show 23 + 2 * (hpr (F 20 1)).toNat = 22 + 2 * (hpr (F 20 1)).toNat + 1 by omega]
          exact hW.1 _ (wad_h (n := (hpr (F 20 1)).toNat) (by omega))
        · rw [aup_n (by omega), aup_n (by omega)]; exact hW.1 a ha
      · unfold nad at hj
        rw [aup_n (by omega), aup_n (by omega)]; exact hW.2 j hj
    · refine Or.inr ⟨G', ?_⟩
      simp (disch := omega) only [aup_s, aup_n]
      refine SR1_act r g1 sm g6 ⟨?_, ?_, fun e he => ?_, sds_c g5 (fun j hj => ?_)⟩ (fun j hj => ?_)
      · rw [r2, if_neg (by omega), aup_n (by omega), g2]; exact b.2.2.1
      · rw [r2, if_neg (by omega), aup_n (by omega), g3]; exact b.2.2.2.1
      · rw [r2, if_neg (by omega), aup_n (by omega), g4 e he]; exact sd_d r.2.2.2.1 he
      · rw [r2, if_pos (by omega), aup_n (by omega), show 10 + j - 10 = j by omega]
      · rw [r2, if_neg (by omega), aup_n (by omega)]
    · unfold iH
      simp (disch := omega) only [aup_s, aup_n, fup_s, fup_n]
      refine ⟨hb, by omega, hu.symm, fun v hv => ?_⟩
      have e : hix (hpr (F 20 1)) (F 20 2 - 1) v = hix (F 20 1) (F 20 2) v := by
        unfold hix hpr; split <;> omega
      rw [e, aup_n (by unfold hix; omega), aup_n (by unfold hix; omega)]
      exact hrel_c (h4 v (by omega)) (fun _ _ => rfl) sm
    · exact iI_f hI (fun j hj => by rw [aup_n (by omega), aup_n (by omega)]) (fun j _ _ => by rw [aup_n (by omega), aup_n (by omega), aup_n (by omega)])
theorem mQ_c {A' F' : Nat → Nat → Int} {Q : (Int → Int) → Int} (h : mQ A F Q) (a1 : A' 105 = A 105) (a2 : A' 107 = A 107) (a3 : A' 108 = A 108) (a4 : F' 103 21 = F 103 21) : mQ A' F' Q := by
  unfold mQ at *
  rw [a1, a2, a3, a4]; exact h
theorem inv_Q (h : inv A F E) : ∃ Q, cR A E (rad (F 1 5)) Q ∧ mQ A F Q := by
  have r := h.2.1
  obtain ⟨Q, q1, q2⟩ := iR_Q r r.2.2.2.2.1.1 r.2.2.2.2.1.2
  exact ⟨Q, q1, q2 F r.2.2.2.2.2.1⟩
theorem k_step (h : inv A F E) : prs mX10_step mX11_step [] A F E := by
  have b := iS_b h.2.2.2.1
  have n1 := inv_nx h
  have hs := E_hasSheet (A := A) (F := F) (E := E)
  have ms := m_isSheet (A := A) (F := F) (E := E)
  by_cases z : 0 < A 13 0
  · rw [if_pos z] at hs
    rw [if_pos (b.2.2.2.2.1.mpr z)] at ms
    obtain ⟨G, r⟩ := b.2.2.2.2.2.2.mp z
    have ho := r.1
    have hb := r.2.2.2.2.2.2.2.2.2.2
    have gt : cl mX9_get [vr 12, vi 2] (HP A F E) = some (vi (A 13 2), HP A F E) := h_get wad_12 (by omega) (by omega)
    have s2 := sd_2 r.2.2.2.1
    by_cases z1 : 999 ≤ A 13 2
    · refine prs_0 (v := -1) h ?_ ?_
      · simp (disch := omega) only [eX10_step, sX10_step_0, sX10_step_1, sX10_step_4, sX10_step_7, sX10_step_8, sX10_step_11, sX10_step_12, sX10_step_15, sX10_step_18, sX10_step_21, sX10_step_22, sX10_step_23, sX10_step_24, sX10_step_27, sX10_step_28, sX10_step_31, sX10_step_34, sX10_step_35, sX10_step_38, sX10_step_39, sX10_step_42, sX10_step_45, sX10_step_46, sX10_step_49, sX10_step_50, sX10_step_53, ↓hk1, ↓hf1_8, ↓hk12, ↓bndi_at hs, ↓bndi_at gt, ↓if_pos, ↓if_neg]
      · simp (disch := omega) only [eX11_step, sX11_step_0, sX11_step_1, sX11_step_4, sX11_step_7, sX11_step_8, sX11_step_11, sX11_step_13, sX11_step_14, sX11_step_17, sX11_step_20, sX11_step_21, sX11_step_22, sX11_step_23, sX11_step_26, sX11_step_27, sX11_step_30, sX11_step_31, sX11_step_32, sX11_step_35, ↓hk103, ↓hf103_20, ↓hg113, ↓bndi_at ms, Int.reduceToNat, s2, ↓if_pos, ↓if_neg]
    · obtain ⟨Q, q1, q2⟩ := inv_Q h
      have rr := h.2.1
      have hQ := q1.1
      have rf := E_ruleInForce (A := kpA A F) (F := kpF F) (E := E) (by rw [kpF_o n1.1 (by omega)]; exact rr.2.2.1) rr.1 (by rw [kpF_o n1.1 (by omega)]; exact rr.2.2.2.2.1.1) (by rw [kpF_o n1.1 (by omega)]; exact rr.2.2.2.2.1.2)
      rw [kpF_o n1.1 (by omega)] at rf
      have k13 : kpA A F 13 = A 13 := kpA_o n1.1 (by omega)
      obtain ⟨A1, F1, p1, p2, p3, p4, p5⟩ := h_pass (A := kpA A F) (F := kpF F) (E := E) (G := G) (Q := Q) wad_12 (by rw [k13]; exact ho) (cR_f q1 (fun j j1 j2 => kpA_o n1.1 (by omega)))
      simp only [Nat.reduceAdd] at p2 p3 p4
      rw [k13] at p2
      have hA13 : A1 13 = psa Q G (A 13) := p2
      have a113 : A1 113 = A 113 := by rw [p4 113 (by omega) (by unfold isk; omega), kpA_o n1.1 (by omega)]
      have a114 : A1 114 = A 114 := by rw [p4 114 (by omega) (by unfold isk; omega), kpA_o n1.1 (by omega)]
      have f103 : F1 103 = F 103 := by rw [p5 103 (by omega), kpF_o n1.1 (by omega)]
      have hG5 := ho.2.1
      have bt : cl mX9_bitsOf [vr 12, vi 0] (HP A1 F1 E) = some (vi (bitsN 0 (psa Q G (A 13)) G), HP A1 F1 E) := by
        have := h_bits (A := A1) (F := F1) (E := E) (s := 0) (G := G) wad_12 (by show A1 13 1 = _; rw [hA13, psa_lo (by omega) (by omega)]; exact ho.1) hG5
        rw [this]; rw [← hA13]
      have hH := h.2.2.2.2.1
      obtain ⟨W, w1, w2, w3⟩ := m_keepsAct (E := E) (A := A1) (F := F1) (by rw [f103, hH.2.2.1]; exact hH.2.1.1) (by rw [f103, hH.2.2.1]; exact hH.2.1.2)
      rw [f103, a113, a114] at w2 w3
      rw [f103] at w1
      obtain ⟨A2, F2, t1, t2, t3⟩ := m_passes (A := aup A1 114 W) (F := aup F1 103 (fup (F 103) 24 (if F 103 24 = 20 then 20 else F 103 24 + 1))) (E := E) (f := A 13) (G := G) (Q := Q) (by rw [aup_n (by omega), a113]; exact r.2.2.2.1) ho (mQ_c q2 (by rw [aup_n (by omega), p4 105 (by omega) (by unfold isk; omega), kpA_o n1.1 (by omega)]) (by rw [aup_n (by omega), p4 107 (by omega) (by unfold isk; omega), kpA_o n1.1 (by omega)]) (by rw [aup_n (by omega), p4 108 (by omega) (by unfold isk; omega), kpA_o n1.1 (by omega)]) (by rw [aup_s, fup_n (by omega)]))
      have mb := m_bits (A := A2) (F := F2) (E := E) (s := 0) (G := G) (by rw [sd_1 t3, psa_lo (by omega) (by omega)]; exact ho.1) hG5
      rw [sd_bits t3 hG5] at mb
      have ms1 := m_isSheet (A := A1) (F := F1) (E := E)
      rw [a113, if_pos (b.2.2.2.2.1.mpr z)] at ms1
      refine ⟨bitsN 0 (psa Q G (A 13)) G, A1, F1, E, A2, F2, E, ?_, ?_, ?_, rfl⟩
      · simp (disch := omega) only [eX10_step, sX10_step_0, sX10_step_1, sX10_step_4, sX10_step_7, sX10_step_8, sX10_step_11, sX10_step_12, sX10_step_15, sX10_step_18, sX10_step_21, sX10_step_22, sX10_step_23, sX10_step_24, sX10_step_27, sX10_step_28, sX10_step_31, sX10_step_34, sX10_step_35, sX10_step_38, sX10_step_39, sX10_step_42, sX10_step_45, sX10_step_46, sX10_step_49, sX10_step_50, sX10_step_53, ↓hk1, ↓hf1_8, ↓hf1_11, ↓hk12, ↓hk20, ↓bndi_at hs, ↓bndi_at gt, ↓bndv_at (h_keep' h), ↓bndr_at rf, ↓bndv_at p1, ↓bndi_at bt, ↓if_pos, ↓if_neg]
      · simp (disch := omega) only [eX11_step, sX11_step_0, sX11_step_1, sX11_step_4, sX11_step_7, sX11_step_8, sX11_step_11, sX11_step_13, sX11_step_14, sX11_step_17, sX11_step_20, sX11_step_21, sX11_step_22, sX11_step_23, sX11_step_26, sX11_step_27, sX11_step_30, sX11_step_31, sX11_step_32, sX11_step_35, ↓hk103, ↓hf103_20, ↓hg113, ↓bndi_at ms1, a113, Int.reduceToNat, s2, ↓bndv_at w1, ↓bndv_at t1, ↓bndi_at mb, ↓if_pos, ↓if_neg]
      · refine act_inv (f' := psa Q G (A 13)) h r ?_ ?_ ?_ ?_ ?_ ?_ ?_ ?_ ?_ (psa_ok hQ ho) (psa_cn hG5 (h.2.2.1.1 12 wad_12)) psa_same ?_ t3 ?_
        · intro j j1 j2 j3 j4 j5 j6 j7 j8
          rw [t2.1 j j4 j5 j6, aup_n j7, p4 j j1 j8]
          exact aup_n j2
        · rw [t2.1 15 (by omega) (by omega) (by omega), aup_n (by omega), p4 15 (by omega) (by unfold isk; omega), kpA_o n1.1 (by omega)]
          exact h.2.2.1.1 14 wad_14
        · intro j j1 j2 j3 j4 j5
          rw [t2.2.1 j j5, aup_n j5, p5 j j1]
          unfold kpF
          rw [aup_n j3, aup_n j4]
        · intro k k1 k2
          rw [t2.2.2.1 k k1, aup_s, fup_n k2]
        · rw [t2.1 _ (by omega) (by omega) (by omega), aup_n (by omega), p4 _ (by omega) (by unfold isk; omega)]
          exact aup_s
        · rw [t2.2.1 20 (by omega), aup_n (by omega), p5 20 (by omega)]
        · rw [t2.2.2.1 24 (by omega), aup_s, fup_s]
        · rw [t2.1 114 (by omega) (by omega) (by omega), aup_s]; exact ⟨w2, w3⟩
        · rw [t2.1 13 (by omega) (by omega) (by omega), aup_n (by omega), hA13]
        · rw [psa_2, i32_of (by omega) (by omega)]; omega
        · intro j hj
          rw [t2.2.2.2 j hj, aup_n (by omega), a113]
  · rw [if_neg z] at hs
    rw [if_neg (fun q => z (b.2.2.2.2.1.mp q))] at ms
    refine prs_0 (v := -1) h ?_ ?_
    · simp (disch := omega) only [eX10_step, sX10_step_0, sX10_step_1, sX10_step_4, sX10_step_7, sX10_step_8, sX10_step_11, sX10_step_12, sX10_step_15, sX10_step_18, sX10_step_21, sX10_step_22, sX10_step_23, sX10_step_24, sX10_step_27, sX10_step_28, sX10_step_31, sX10_step_34, sX10_step_35, sX10_step_38, sX10_step_39, sX10_step_42, sX10_step_45, sX10_step_46, sX10_step_49, sX10_step_50, sX10_step_53, ↓hk1, ↓bndi_at hs, ↓if_pos, ↓if_neg]
    · simp (disch := omega) only [eX11_step, sX11_step_0, sX11_step_1, sX11_step_4, sX11_step_7, sX11_step_8, sX11_step_11, sX11_step_13, sX11_step_14, sX11_step_17, sX11_step_20, sX11_step_21, sX11_step_22, sX11_step_23, sX11_step_26, sX11_step_27, sX11_step_30, sX11_step_31, sX11_step_32, sX11_step_35, ↓hk103, ↓bndi_at ms, ↓if_pos, ↓if_neg]
end AC4
