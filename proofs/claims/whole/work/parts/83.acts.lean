/-! acts: give, way, stone, fold -/
/-- behind History.keep -/
def kpA (A F : Nat → Nat → Int) : Nat → Nat → Int := aup A (23 + 2 * (F 20 1).toNat) (A 13)
def kpF (F : Nat → Nat → Int) : Nat → Nat → Int := aup (aup F (22 + 2 * (F 20 1).toNat) (fup (F (22 + 2 * (F 20 1).toNat)) 1 (-1))) 20 (fup (fup (F 20) 1 (if F 20 1 + 1 < 20 then F 20 1 + 1 else 0)) 2 (if F 20 2 + 1 < 20 then F 20 2 + 1 else 20))
def mkW (A F : Nat → Nat → Int) (W : Nat → Int) : Prop := (F 103 24 = 20 → ∀ j, j < 1520 → W j = if j < 1444 then A 114 (j + 76) else A 113 (10 + (j - 1444))) ∧ (F 103 24 < 20 → ∀ j, W j = if 76 * (F 103 24).toNat ≤ j ∧ j < 76 * (F 103 24).toNat + 76 then A 113 (10 + (j - 76 * (F 103 24).toNat)) else A 114 j)
def kpM (F : Nat → Nat → Int) : Nat → Nat → Int := aup (kpF F) 103 (fup (F 103) 24 (if F 103 24 = 20 then 20 else F 103 24 + 1))
section AC
variable {A F : Nat → Nat → Int} {E : zE} {G : Nat}
theorem kpA_o {j : Nat} (h : F 20 1 < 20) (k : j < 22 ∨ 62 ≤ j) : kpA A F j = A j := aup_n (by omega)
theorem kpF_o {j : Nat} (h : F 20 1 < 20) (k : j < 20 ∨ 62 ≤ j) : kpF F j = F j := by unfold kpF; rw [aup_n (by omega), aup_n (by omega)]
theorem kpF_1 : kpF F 20 1 = if F 20 1 + 1 < 20 then F 20 1 + 1 else 0 := by unfold kpF; rw [aup_s, fup_n (by omega), fup_s]
theorem kpF_2 : kpF F 20 2 = if F 20 2 + 1 < 20 then F 20 2 + 1 else 20 := by unfold kpF; rw [aup_s, fup_s]
theorem m_keepsAct' {A1 : Nat → Nat → Int} (h : iH A F) (a1 : A1 113 = A 113) (a2 : A1 114 = A 114) : ∃ W, cl mX11_keepsAct [vr 103] (HP A1 (kpF F) E) = some (vn, HP (aup A1 114 W) (kpM F) E) ∧ mkW A F W := by
  obtain ⟨h1, h2, h3, h4⟩ := h
  have k : kpF F 103 = F 103 := kpF_o h1.2 (by omega)
  obtain ⟨W, r1, r2, r3⟩ := m_keepsAct (E := E) (A := A1) (F := kpF F) (by rw [k, h3]; omega) (by rw [k, h3]; omega)
  rw [a1, a2] at r2 r3
  rw [k] at r1 r2 r3
  exact ⟨W, r1, r2, r3⟩
theorem act_inv {A2 F2 : Nat → Nat → Int} {f' : Nat → Int} (h : inv A F E) (r : SR1 G (A 13) (A 11) (A 17) (A 18) (A 19) (F 16 3) (A 113)) (kA : ∀ j, j ≠ 13 → j ≠ 23 + 2 * (F 20 1).toNat → j ≠ 15 → j ≠ 111 → j ≠ 112 → j ≠ 113 → j ≠ 114 → ¬ isk j → A2 j = A j) (k15 : cn 82 (A2 15)) (kF : ∀ j, j ≠ 12 → j ≠ 14 → j ≠ 20 → j ≠ 22 + 2 * (F 20 1).toNat → j ≠ 103 → F2 j = F j) (kM : ∀ k, k ≠ 18 → k ≠ 24 → F2 103 k = F 103 k) (a1 : A2 (23 + 2 * (F 20 1).toNat) = A 13) (f1 : F2 20 = kpF F 20) (f3 : F2 103 24 = if F 103 24 = 20 then 20 else F 103 24 + 1) (w : mkW A F (A2 114)) (a3 : A2 13 = f') (ho : wok f' G) (hc : cn 82 f') (s : same (A 13) f') (hb : 0 ≤ f' 2 ∧ f' 2 ≤ 999) (hs : sdr (A2 113) f') (hk : ∀ j, (j < 10 ∨ 86 ≤ j) → A2 113 j = A 113 j) : inv A2 F2 E := by
  obtain ⟨hT, hR, hW, hS, hH, hI⟩ := h
  have n1 := hH.1
  refine ⟨?_, ?_, ?_, ?_, ?_, ?_⟩
  · exact iT_f hT (kA 3 (by omega) (by omega) (by omega) (by omega) (by omega) (by omega) (by omega) (by unfold isk; omega)) (kA 104 (by omega) (by omega) (by omega) (by omega) (by omega) (by omega) (by omega) (by unfold isk; omega)) (kF 2 (by omega) (by omega) (by omega) (by omega) (by omega)) (kM 1 (by omega) (by omega))
  · obtain ⟨r1, r2, r3, r4, r5, r6, r7, r8, r9⟩ := hR
    have e1 : F2 1 = F 1 := kF 1 (by omega) (by omega) (by omega) (by omega) (by omega)
    refine ⟨r1, r2, by rw [e1]; exact r3, by rw [kM 2 (by omega) (by omega)]; exact r4, by rw [e1]; exact r5, by rw [kM 21 (by omega) (by omega), e1]; exact r6, by rw [kM 22 (by omega) (by omega), e1]; exact r7, by rw [e1]; exact r8, fun i hi => ?_⟩
    refine RU_f (r9 i hi) (kA _ ?_ ?_ ?_ ?_ ?_ ?_ ?_ ?_) (kA _ ?_ ?_ ?_ ?_ ?_ ?_ ?_ ?_) (kA _ ?_ ?_ ?_ ?_ ?_ ?_ ?_ ?_) (kA _ ?_ ?_ ?_ ?_ ?_ ?_ ?_ ?_) <;> first | omega | (unfold isk; omega)
  · refine ⟨fun a ha => ?_, fun j hj => ?_⟩
    · by_cases q : a = 12
      · subst q; rw [a3]; exact hc
      · by_cases q3 : a = 14
        · subst q3; exact k15
        · by_cases q2 : a + 1 = 23 + 2 * (F 20 1).toNat
          · rw [q2, a1]; exact hW.1 12 wad_12
          · have := wad_b ha
            unfold wad at ha
            rw [kA (a + 1) (by omega) q2 (by omega) (by omega) (by omega) (by omega) (by omega) (by unfold isk; omega)]
            exact hW.1 a ha
    · unfold nad at hj
      rw [kA j (by omega) (by omega) (by omega) (by omega) (by omega) (by omega) (by omega) (by unfold isk; omega)]
      exact hW.2 j hj
  · refine Or.inr ⟨G, ?_⟩
    rw [a3, kA 11 (by omega) (by omega) (by omega) (by omega) (by omega) (by omega) (by omega) (by unfold isk; omega), kA 17 (by omega) (by omega) (by omega) (by omega) (by omega) (by omega) (by omega) (by unfold isk; omega), kA 18 (by omega) (by omega) (by omega) (by omega) (by omega) (by omega) (by omega) (by unfold isk; omega), kA 19 (by omega) (by omega) (by omega) (by omega) (by omega) (by omega) (by omega) (by unfold isk; omega), kF 16 (by omega) (by omega) (by omega) (by omega) (by omega)]
    exact SR1_act r ho s hb hs hk
  · refine keep_iH hH (SR1_self r) a1 (fun j h1 h2 h3 => kA j (by omega) h3 (by omega) (by omega) (by omega) (by omega) (by omega) (by unfold isk; omega)) (by rw [f1]; exact kpF_1) (by rw [f1]; exact kpF_2) f3 w.1 w.2 (by rw [a3]; exact s)
  · exact iI_f hI (fun j hj => kA j (by omega) (by omega) (by omega) (by omega) (by omega) (by omega) (by omega) (by unfold isk; omega)) (fun j _ _ => kF j (by omega) (by omega) (by omega) (by omega) (by omega))
theorem inv_nx (h : inv A F E) : F 20 1 < 20 ∧ 0 ≤ F 20 1 := ⟨h.2.2.2.2.1.1.2, h.2.2.2.2.1.1.1⟩
theorem h_keep' (h : inv A F E) : cl mX2_keep [vr 20, vr 12] (HP A F E) = some (vn, HP (kpA A F) (kpF F) E) := h_keep h.2.2.2.2.1 h.2.2.1
/-- a simple act: the class's row becomes f', what is said becomes s' -/
theorem act_prs {c m : zMd} {as : List zV} {v : Int} {f' s' : Nat → Int} (h : inv A F E) (r : SR1 G (A 13) (A 11) (A 17) (A 18) (A 19) (F 16 3) (A 113)) (ho : wok f' G) (hcn : cn 82 f') (s : same (A 13) f') (hb : 0 ≤ f' 2 ∧ f' 2 ≤ 999) (hs : sdr s' f') (hk : ∀ j, (j < 10 ∨ 86 ≤ j) → s' j = A 113 j) (e1 : cl c (vr 1 :: as) (HP A F E) = some (vi v, HP (aup (kpA A F) 13 f') (kpF F) E)) (e2 : ∀ W, cl mX11_keepsAct [vr 103] (HP (aup (kpA A F) 13 f') (kpF F) E) = some (vn, HP (aup (aup (kpA A F) 13 f') 114 W) (kpM F) E) → cl m (vr 103 :: as) (HP (aup (kpA A F) 13 f') (kpF F) E) = some (vi v, HP (aup (aup (aup (kpA A F) 13 f') 114 W) 113 s') (kpM F) E)) : prs c m as A F E := by
  have n1 := inv_nx h
  obtain ⟨W, r1, r2⟩ := m_keepsAct' (E := E) (A1 := aup (kpA A F) 13 f') h.2.2.2.2.1 (by rw [aup_n (by omega), kpA_o n1.1 (by omega)]) (by rw [aup_n (by omega), kpA_o n1.1 (by omega)])
  refine ⟨v, _, _, E, _, _, E, e1, e2 W r1, ?_, rfl⟩
  refine act_inv (f' := f') h r ?_ ?_ ?_ ?_ ?_ ?_ ?_ ?_ ?_ ho hcn s hb ?_ ?_
  · intro j j1 j2 j3 j4 j5 j6 j7 j8
    rw [aup_n j6, aup_n j7, aup_n j1]
    exact aup_n j2
  · rw [aup_n (by omega), aup_n (by omega), aup_n (by omega), kpA_o n1.1 (by omega)]; exact h.2.2.1.1 14 wad_14
  · intro j j1 j2 j3 j4 j5
    unfold kpM kpF
    rw [aup_n j5, aup_n j3, aup_n j4]
  · intro k k1 k2
    unfold kpM
    rw [aup_s, fup_n k2]
  · rw [aup_n (by omega), aup_n (by omega), aup_n (by omega)]; exact aup_s
  · unfold kpM; rw [aup_n (by omega)]
  · unfold kpM; rw [aup_s, fup_s]
  · rw [aup_n (by omega), aup_s]; exact r2
  · rw [aup_n (by omega), aup_n (by omega), aup_s]
  · rw [aup_s]; exact hs
  · rw [aup_s]; exact hk
end AC
section AC2
variable {A F : Nat → Nat → Int} {E : zE}
theorem k_give {g m : Int} (h : inv A F E) : prs mX10_give mX11_give [vi g, vi m] A F E := by
  have b := iS_b h.2.2.2.1
  have n1 := inv_nx h
  have ig := E_isGoer (A := A) (F := F) (E := E) (g := g) b.2.1.1 b.2.1.2
  have mg := m_isGoer (A := A) (F := F) (E := E) (g := g)
  rw [b.2.2.2.1] at mg
  have wi := E_within (v := m) (lo := 1) (hi := 20) (h := HP A F E)
  have mi := fun H => m_in (v := m) (lo := 1) (hi := 20) (h := H)
  by_cases z : 0 ≤ g ∧ g < A 13 1
  · obtain ⟨G, r⟩ := b.2.2.2.2.2.2.mp (b.2.2.2.2.2.1 (by omega))
    have ho := r.1
    obtain ⟨n, rfl⟩ : ∃ n : Nat, g = (n : Int) := ⟨g.toNat, by omega⟩
    have hG : A 13 1 = (G : Int) := ho.1
    have hG5 := ho.2.1
    have gk := ho.2.2.2.2.2.2 n (by omega)
    have gk' := gk
    unfold gok at gk
    have sg := sd_g r.2.2.2.1 (g := n) (by omega)
    rw [if_pos z] at ig mg
    have st : cl mX9_of [vr 12, vi (n : Int), vi 3] (HP A F E) = some (vi (A 13 (50 + 7 * n)), HP A F E) := by
      rw [h_of wad_12 (by omega) (by omega) (by omega) (by omega), show (47 + 7 * (n : Int) + 3).toNat = 50 + 7 * n by omega]
    have ms := m_statusOf (A := A) (F := F) (E := E) (g := n) (by omega)
    rw [sg.2.2.1] at ms
    by_cases z2 : A 13 (50 + 7 * n) = 2
    · refine prs_0 (v := -1) h ?_ ?_
      · simp (disch := omega) only [eX10_give, sX10_give_0, sX10_give_1, sX10_give_2, sX10_give_5, sX10_give_8, sX10_give_9, sX10_give_12, sX10_give_13, sX10_give_14, sX10_give_17, sX10_give_18, sX10_give_21, sX10_give_22, sX10_give_23, sX10_give_25, sX10_give_28, sX10_give_31, sX10_give_32, sX10_give_33, sX10_give_34, sX10_give_37, sX10_give_38, sX10_give_41, sX10_give_44, sX10_give_46, sX10_give_47, sX10_give_50, sX10_give_51, sX10_give_52, sX10_give_55, sX10_give_56, sX10_give_57, sX10_give_60, sX10_give_61, sX10_give_62, sX10_give_65, sX10_give_66, sX10_give_67, sX10_give_68, sX10_give_71, sX10_give_72, ↓hk1, ↓hf1_8, ↓hk12, ↓bndi_at ig, ↓bndi_at st, z2, ↓if_pos, ↓if_neg]
      · simp (disch := omega) only [eX11_give, sX11_give_0, sX11_give_1, sX11_give_2, sX11_give_5, sX11_give_8, sX11_give_9, sX11_give_10, sX11_give_13, sX11_give_14, sX11_give_17, sX11_give_18, sX11_give_19, sX11_give_20, sX11_give_23, sX11_give_26, sX11_give_29, sX11_give_30, sX11_give_31, sX11_give_32, sX11_give_35, sX11_give_36, sX11_give_37, sX11_give_40, sX11_give_41, sX11_give_42, sX11_give_43, sX11_give_44, sX11_give_47, sX11_give_49, sX11_give_51, sX11_give_52, sX11_give_53, sX11_give_54, sX11_give_55, sX11_give_56, sX11_give_57, sX11_give_59, sX11_give_62, sX11_give_64, sX11_give_67, sX11_give_68, sX11_give_69, sX11_give_70, sX11_give_71, sX11_give_74, ↓hk103, ↓bndi_at mg, ↓bndi_at ms, z2, ↓if_pos, ↓if_neg]
    · by_cases z3 : 1 ≤ m ∧ m ≤ 20
      · rw [if_pos z3] at wi
        have fd : cl mX9_of [vr 12, vi (n : Int), vi 2] (HP (kpA A F) (kpF F) E) = some (vi (A 13 (49 + 7 * n)), HP (kpA A F) (kpF F) E) := by
          rw [h_of wad_12 (by omega) (by omega) (by omega) (by omega), show (47 + 7 * (n : Int) + 2).toNat = 49 + 7 * n by omega, kpA_o n1.1 (by omega)]
        generalize hV : (if A 13 (49 + 7 * n) + m < 99 then A 13 (49 + 7 * n) + m else 99) = V
        have pt : cl mX9_put [vr 12, vi (n : Int), vi 2, vi V] (HP (kpA A F) (kpF F) E) = some (vn, HP (aup (kpA A F) 13 (fup (A 13) (49 + 7 * n) V)) (kpF F) E) := by
          rw [h_put wad_12 (by omega) (by omega) (by omega) (by omega), show (47 + 7 * (n : Int) + 2).toNat = 49 + 7 * n by omega, kpA_o n1.1 (by omega)]
        have hVb : 0 ≤ V ∧ V ≤ 99 := by rw [← hV]; split <;> omega
        refine act_prs (G := G) (v := V) (f' := fup (A 13) (49 + 7 * n) V) (s' := fup (A 113) (13 + 7 * n) V) h r ?_ (cn_up (h.2.2.1.1 12 wad_12) (by omega)) ⟨fup_n (by omega), fup_n (by omega), fun e he => fup_n (by omega)⟩ (by rw [fup_n (by omega)]; exact r.2.2.2.2.2.2.2.2.2.2) ?_ (fun j hj => fup_n (by omega)) ?_ ?_
        · refine wok_at ho (g := n) (by omega) (fun j hj => fup_n (by omega)) ?_
          unfold gok
          simp (disch := omega) only [fup_s, fup_n]
          exact ⟨gk.1, hVb, gk.2.2⟩
        · refine sdr_at (g := n) r.2.2.2.1 (by omega) (fun j hj => fup_n (by omega)) (fun j hj => fup_n (by omega)) ?_
          simp (disch := omega) only [fup_s, fup_n]
          exact ⟨sg.1, by trivial, sg.2.2⟩
        · have hV' : (if A 13 (49 + 7 * n) + m < 99 then A 13 (49 + 7 * n) + m else 99) = V := hV
          simp (disch := omega) only [eX10_give, sX10_give_0, sX10_give_1, sX10_give_2, sX10_give_5, sX10_give_8, sX10_give_9, sX10_give_12, sX10_give_13, sX10_give_14, sX10_give_17, sX10_give_18, sX10_give_21, sX10_give_22, sX10_give_23, sX10_give_25, sX10_give_28, sX10_give_31, sX10_give_32, sX10_give_33, sX10_give_34, sX10_give_37, sX10_give_38, sX10_give_41, sX10_give_44, sX10_give_46, sX10_give_47, sX10_give_50, sX10_give_51, sX10_give_52, sX10_give_55, sX10_give_56, sX10_give_57, sX10_give_60, sX10_give_61, sX10_give_62, sX10_give_65, sX10_give_66, sX10_give_67, sX10_give_68, sX10_give_71, sX10_give_72, ↓hk1, ↓hf1_8, ↓hf1_11, ↓hk12, ↓hk20, ↓bndi_at ig, ↓bndi_at st, ↓bndi_at wi, ↓bndv_at (h_keep' h), ↓bndi_at fd, i32_of, hV', ↓bndv_at pt, ↓if_pos, ↓if_neg]
        · intro W kp
          have mg' := m_isGoer (A := aup (kpA A F) 13 (fup (A 13) (49 + 7 * n) V)) (F := kpF F) (E := E) (g := (n : Int))
          have ms' := m_statusOf (A := aup (kpA A F) 13 (fup (A 13) (49 + 7 * n) V)) (F := kpF F) (E := E) (g := n) (by omega)
          have mf' := m_foodOf (A := aup (aup (kpA A F) 13 (fup (A 13) (49 + 7 * n) V)) 114 W) (F := kpM F) (E := E) (g := n) (by omega)
          have mf2 := m_foodOf (A := aup (aup (aup (kpA A F) 13 (fup (A 13) (49 + 7 * n) V)) 114 W) 113 (fup (A 113) (13 + 7 * n) V)) (F := kpM F) (E := E) (g := n) (by omega)
          rw [aup_n (by omega), kpA_o n1.1 (by omega)] at mg' ms'
          rw [aup_n (by omega), aup_n (by omega), kpA_o n1.1 (by omega), sg.2.1] at mf'
          rw [aup_s, fup_s] at mf2
          rw [b.2.2.2.1, if_pos z] at mg'
          rw [sg.2.2.1] at ms'
          have mi' := mi (HP (aup (kpA A F) 13 (fup (A 13) (49 + 7 * n) V)) (kpF F) E)
          rw [if_pos z3] at mi'
          have x2 : (11 + 7 * (n : Int) + 2).toNat = 13 + 7 * n := by omega
          by_cases y : A 13 (49 + 7 * n) + m ≤ 99
          · have yV : V = A 13 (49 + 7 * n) + m := by rw [← hV]; split <;> omega
            subst yV
            simp (disch := omega) only [eX11_give, sX11_give_0, sX11_give_1, sX11_give_2, sX11_give_5, sX11_give_8, sX11_give_9, sX11_give_10, sX11_give_13, sX11_give_14, sX11_give_17, sX11_give_18, sX11_give_19, sX11_give_20, sX11_give_23, sX11_give_26, sX11_give_29, sX11_give_30, sX11_give_31, sX11_give_32, sX11_give_35, sX11_give_36, sX11_give_37, sX11_give_40, sX11_give_41, sX11_give_42, sX11_give_43, sX11_give_44, sX11_give_47, sX11_give_49, sX11_give_51, sX11_give_52, sX11_give_53, sX11_give_54, sX11_give_55, sX11_give_56, sX11_give_57, sX11_give_59, sX11_give_62, sX11_give_64, sX11_give_67, sX11_give_68, sX11_give_69, sX11_give_70, sX11_give_71, sX11_give_74, ↓hk103, ↓hf103_20, ↓hs113, ↓bndi_at mg', ↓bndi_at ms', ↓bndi_at mi', ↓bndv_at kp, ↓bndi_at mf', ↓bndi_at mf2, ↓if_pos, ↓if_neg, i32_of, x2, aup_n, kpA_o n1.1]
          · have yV : V = 99 := by rw [← hV]; split <;> omega
            subst yV
            simp (disch := omega) only [eX11_give, sX11_give_0, sX11_give_1, sX11_give_2, sX11_give_5, sX11_give_8, sX11_give_9, sX11_give_10, sX11_give_13, sX11_give_14, sX11_give_17, sX11_give_18, sX11_give_19, sX11_give_20, sX11_give_23, sX11_give_26, sX11_give_29, sX11_give_30, sX11_give_31, sX11_give_32, sX11_give_35, sX11_give_36, sX11_give_37, sX11_give_40, sX11_give_41, sX11_give_42, sX11_give_43, sX11_give_44, sX11_give_47, sX11_give_49, sX11_give_51, sX11_give_52, sX11_give_53, sX11_give_54, sX11_give_55, sX11_give_56, sX11_give_57, sX11_give_59, sX11_give_62, sX11_give_64, sX11_give_67, sX11_give_68, sX11_give_69, sX11_give_70, sX11_give_71, sX11_give_74, ↓hk103, ↓hf103_20, ↓hs113, ↓bndi_at mg', ↓bndi_at ms', ↓bndi_at mi', ↓bndv_at kp, ↓bndi_at mf', ↓bndi_at mf2, ↓if_pos, ↓if_neg, i32_of, x2, aup_n, kpA_o n1.1]
      · rw [if_neg z3] at wi
        have mi' := mi (HP A F E)
        rw [if_neg z3] at mi'
        refine prs_0 (v := -1) h ?_ ?_
        · simp (disch := omega) only [eX10_give, sX10_give_0, sX10_give_1, sX10_give_2, sX10_give_5, sX10_give_8, sX10_give_9, sX10_give_12, sX10_give_13, sX10_give_14, sX10_give_17, sX10_give_18, sX10_give_21, sX10_give_22, sX10_give_23, sX10_give_25, sX10_give_28, sX10_give_31, sX10_give_32, sX10_give_33, sX10_give_34, sX10_give_37, sX10_give_38, sX10_give_41, sX10_give_44, sX10_give_46, sX10_give_47, sX10_give_50, sX10_give_51, sX10_give_52, sX10_give_55, sX10_give_56, sX10_give_57, sX10_give_60, sX10_give_61, sX10_give_62, sX10_give_65, sX10_give_66, sX10_give_67, sX10_give_68, sX10_give_71, sX10_give_72, ↓hk1, ↓hf1_8, ↓hk12, ↓bndi_at ig, ↓bndi_at st, ↓bndi_at wi, ↓if_pos, ↓if_neg]
        · simp (disch := omega) only [eX11_give, sX11_give_0, sX11_give_1, sX11_give_2, sX11_give_5, sX11_give_8, sX11_give_9, sX11_give_10, sX11_give_13, sX11_give_14, sX11_give_17, sX11_give_18, sX11_give_19, sX11_give_20, sX11_give_23, sX11_give_26, sX11_give_29, sX11_give_30, sX11_give_31, sX11_give_32, sX11_give_35, sX11_give_36, sX11_give_37, sX11_give_40, sX11_give_41, sX11_give_42, sX11_give_43, sX11_give_44, sX11_give_47, sX11_give_49, sX11_give_51, sX11_give_52, sX11_give_53, sX11_give_54, sX11_give_55, sX11_give_56, sX11_give_57, sX11_give_59, sX11_give_62, sX11_give_64, sX11_give_67, sX11_give_68, sX11_give_69, sX11_give_70, sX11_give_71, sX11_give_74, ↓hk103, ↓bndi_at mg, ↓bndi_at ms, ↓bndi_at mi', ↓if_pos, ↓if_neg]
  · rw [if_neg z] at ig mg
    refine prs_0 (v := -1) h ?_ ?_
    · simp (disch := omega) only [eX10_give, sX10_give_0, sX10_give_1, sX10_give_2, sX10_give_5, sX10_give_8, sX10_give_9, sX10_give_12, sX10_give_13, sX10_give_14, sX10_give_17, sX10_give_18, sX10_give_21, sX10_give_22, sX10_give_23, sX10_give_25, sX10_give_28, sX10_give_31, sX10_give_32, sX10_give_33, sX10_give_34, sX10_give_37, sX10_give_38, sX10_give_41, sX10_give_44, sX10_give_46, sX10_give_47, sX10_give_50, sX10_give_51, sX10_give_52, sX10_give_55, sX10_give_56, sX10_give_57, sX10_give_60, sX10_give_61, sX10_give_62, sX10_give_65, sX10_give_66, sX10_give_67, sX10_give_68, sX10_give_71, sX10_give_72, ↓hk1, ↓bndi_at ig, ↓if_pos, ↓if_neg]
    · simp (disch := omega) only [eX11_give, sX11_give_0, sX11_give_1, sX11_give_2, sX11_give_5, sX11_give_8, sX11_give_9, sX11_give_10, sX11_give_13, sX11_give_14, sX11_give_17, sX11_give_18, sX11_give_19, sX11_give_20, sX11_give_23, sX11_give_26, sX11_give_29, sX11_give_30, sX11_give_31, sX11_give_32, sX11_give_35, sX11_give_36, sX11_give_37, sX11_give_40, sX11_give_41, sX11_give_42, sX11_give_43, sX11_give_44, sX11_give_47, sX11_give_49, sX11_give_51, sX11_give_52, sX11_give_53, sX11_give_54, sX11_give_55, sX11_give_56, sX11_give_57, sX11_give_59, sX11_give_62, sX11_give_64, sX11_give_67, sX11_give_68, sX11_give_69, sX11_give_70, sX11_give_71, sX11_give_74, ↓hk103, ↓bndi_at mg, ↓if_pos, ↓if_neg]
end AC2
