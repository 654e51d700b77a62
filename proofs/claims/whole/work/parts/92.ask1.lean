/-! ahead, gone, home, meet -/
section A1
variable {A F : Nat → Nat → Int} {E : zE} {G : Nat} {Q : (Int → Int) → Int}
theorem q_start {A2 F2 : Nat → Nat → Int} (r : SR1 G (A 13) (A 11) (A 17) (A 18) (A 19) (F 16 3) (A 113)) (c : cfr A F A2 F2) (q : mQ A F Q) : ∃ A3, cl mX11_keeps [vr 103] (HP A2 F2 E) = some (vn, HP A3 F2 E) ∧ (∀ j, j ≠ 115 → A3 j = A2 j) ∧ mw A3 F2 G Q (A 13) (A2 113) := by
  have e : ∀ j, 67 ≤ j → j < 127 → A2 j = A j := fun j j1 j2 => c.1 j (by omega) (by omega) (by omega) (by omega) (by unfold isk; omega)
  refine mw_keeps (E := E) r.1 (by rw [e 113 (by omega) (by omega)]; exact r.2.2.2.1) (mQ_c q (e 105 (by omega) (by omega)) (e 107 (by omega) (by omega)) (e 108 (by omega) (by omega)) (by rw [c.2 103 (by omega) (by omega)]))
theorem cfr_113 {A2 F2 : Nat → Nat → Int} (c : cfr A F A2 F2) : A2 113 = A 113 := c.1 113 (by omega) (by omega) (by omega) (by omega) (by unfold isk; omega)
theorem cfr_13 {A2 F2 : Nat → Nat → Int} (c : cfr A F A2 F2) : A2 13 = A 13 := c.1 13 (by omega) (by omega) (by omega) (by omega) (by unfold isk; omega)
theorem k_ahead {g n w : Int} (h : inv A F E) : prs mX10_ahead mX11_ahead [vi g, vi n, vi w] A F E := by
  have b := iS_b h.2.2.2.1
  have ig := E_isGoer (A := A) (F := F) (E := E) (g := g) b.2.1.1 b.2.1.2
  have mg := fun A1 F1 => m_isGoer (A := A1) (F := F1) (E := E) (g := g)
  have wi := E_within (v := n) (lo := 0) (hi := 100) (h := HP A F E)
  have mi := fun H => m_in (v := n) (lo := 0) (hi := 100) (h := H)
  have wi2 := E_within (v := w) (lo := 0) (hi := 2) (h := HP A F E)
  have mi2 := fun H => m_in (v := w) (lo := 0) (hi := 2) (h := H)
  by_cases z : 0 ≤ g ∧ g < A 13 1
  · rw [if_pos z] at ig
    by_cases z1 : 0 ≤ n ∧ n ≤ 100
    · rw [if_pos z1] at wi
      by_cases z2 : 0 ≤ w ∧ w ≤ 2
      · rw [if_pos z2] at wi2
        obtain ⟨G, r⟩ := b.2.2.2.2.2.2.mp (b.2.2.2.2.2.1 (by omega))
        have hG : A 13 1 = (G : Int) := r.1.1
        have hG5 := r.1.2.1
        obtain ⟨Q, q1, q2⟩ := inv_Q h
        obtain ⟨p, rfl⟩ : ∃ p : Nat, g = (p : Int) := ⟨g.toNat, by omega⟩
        obtain ⟨m, rfl⟩ : ∃ m : Nat, n = (m : Int) := ⟨n.toNat, by omega⟩
        obtain ⟨A1, F1, s1, s2, s3, s4, _⟩ := c_restart h r q1
        obtain ⟨A2, F2, t1, t2, t3, t4, _⟩ := c_walk (m := m) (by omega) s4
        have c2 := cfr_t s3 t3
        have rf := c_force h s3
        rw [s2] at t2
        have of : cl mX9_of [vr 14, vi (p : Int), vi w] (HP A2 F2 E) = some (vi (psN Q G m (A 13) (47 + 7 * (p : Int) + w).toNat), HP A2 F2 E) := by
          have := h_of (A := A2) (F := F2) (E := E) (g := (p : Int)) (p := w) wad_14 (by omega) (by omega) (by omega) (by omega)
          rw [this, ← t2]
        obtain ⟨A3, k1, k2, k3⟩ := q_start (E := E) r c2 q2
        obtain ⟨A4, F4, l1, l2, l3⟩ := mw_passN (m := m) (E := E) (by omega) k3
        have lb := mw_lays (E := E) l3
        have mg' := mg A2 F2
        rw [cfr_113 c2, b.2.2.2.1, if_pos z] at mg'
        have mi' := mi (HP A2 F2 E)
        have mi2' := mi2 (HP A2 F2 E)
        rw [if_pos z1] at mi'
        rw [if_pos z2] at mi2'
        have sg := sd_g l3.2.1 (g := p) (by omega)
        have gk := l3.1.2.2.2.2.2.2 p (by omega)
        unfold gok at gk
        have mo := m_isOn (A := A4) (F := F4) (E := E) (g := p) (by omega)
        have mf := m_facesOf (A := A4) (F := F4) (E := E) (g := p) (by omega)
        have md := m_foodOf (A := A4) (F := F4) (E := E) (g := p) (by omega)
        have mc := m_cellOf (A := A4) (F := F4) (E := E) (g := p) (by omega)
        rw [sg.2.2.1] at mo
        rw [sg.1] at mf
        rw [sg.2.1] at md
        refine prs_q h (v := psN Q G m (A 13) (47 + 7 * (p : Int) + w).toNat) ?_ c2 t4.2.1 ?_ (mqf_of k2 l2)
        · simp (disch := omega) only [eX10_ahead, sX10_ahead_0, sX10_ahead_1, sX10_ahead_2, sX10_ahead_5, sX10_ahead_8, sX10_ahead_9, sX10_ahead_10, sX10_ahead_12, sX10_ahead_15, sX10_ahead_18, sX10_ahead_19, sX10_ahead_20, sX10_ahead_21, sX10_ahead_24, sX10_ahead_27, sX10_ahead_29, sX10_ahead_30, sX10_ahead_31, sX10_ahead_34, sX10_ahead_35, sX10_ahead_36, sX10_ahead_37, sX10_ahead_40, sX10_ahead_43, sX10_ahead_44, sX10_ahead_47, sX10_ahead_48, sX10_ahead_49, sX10_ahead_52, ↓hk1, ↓hf1_9, ↓hk14, ↓bndi_at ig, ↓bndi_at wi, ↓bndi_at wi2, ↓bndv_at s1, ↓bndr_at rf, ↓bndv_at t1, ↓bndi_at of, ↓if_pos, ↓if_neg]
        · have : w = 0 ∨ w = 1 ∨ w = 2 := by omega
          rcases this with rfl | rfl | rfl
          · rw [show (47 + 7 * (p : Int) + 0).toNat = 47 + 7 * p by omega]
            by_cases y : psN Q G m (A 13) (50 + 7 * p) = 0
            · rw [sg.2.2.2.2.2 y] at mc
              simp (disch := omega) only [eX11_ahead, sX11_ahead_0, sX11_ahead_1, sX11_ahead_2, sX11_ahead_5, sX11_ahead_8, sX11_ahead_9, sX11_ahead_10, sX11_ahead_11, sX11_ahead_14, sX11_ahead_17, sX11_ahead_20, sX11_ahead_21, sX11_ahead_22, sX11_ahead_23, sX11_ahead_26, sX11_ahead_29, sX11_ahead_32, sX11_ahead_34, sX11_ahead_35, sX11_ahead_36, sX11_ahead_39, sX11_ahead_40, sX11_ahead_41, sX11_ahead_44, sX11_ahead_45, sX11_ahead_48, sX11_ahead_49, sX11_ahead_50, sX11_ahead_53, sX11_ahead_56, sX11_ahead_57, sX11_ahead_58, sX11_ahead_61, sX11_ahead_64, sX11_ahead_65, sX11_ahead_68, sX11_ahead_69, sX11_ahead_70, sX11_ahead_73, sX11_ahead_74, sX11_ahead_75, sX11_ahead_78, sX11_ahead_81, sX11_ahead_82, sX11_ahead_83, sX11_ahead_86, sX11_ahead_88, sX11_ahead_89, sX11_ahead_92, sX11_ahead_94, ↓hk103, ↓bndi_at mg', ↓bndi_at mi', ↓bndi_at mi2', ↓bndv_at k1, ↓bndv_at l1, ↓bndi_at mo, ↓bndi_at mc, ↓bndv_at lb, ↓if_pos, ↓if_neg]
            · rw [gk.2.2.2.2.2.2.1 y]
              simp (disch := omega) only [eX11_ahead, sX11_ahead_0, sX11_ahead_1, sX11_ahead_2, sX11_ahead_5, sX11_ahead_8, sX11_ahead_9, sX11_ahead_10, sX11_ahead_11, sX11_ahead_14, sX11_ahead_17, sX11_ahead_20, sX11_ahead_21, sX11_ahead_22, sX11_ahead_23, sX11_ahead_26, sX11_ahead_29, sX11_ahead_32, sX11_ahead_34, sX11_ahead_35, sX11_ahead_36, sX11_ahead_39, sX11_ahead_40, sX11_ahead_41, sX11_ahead_44, sX11_ahead_45, sX11_ahead_48, sX11_ahead_49, sX11_ahead_50, sX11_ahead_53, sX11_ahead_56, sX11_ahead_57, sX11_ahead_58, sX11_ahead_61, sX11_ahead_64, sX11_ahead_65, sX11_ahead_68, sX11_ahead_69, sX11_ahead_70, sX11_ahead_73, sX11_ahead_74, sX11_ahead_75, sX11_ahead_78, sX11_ahead_81, sX11_ahead_82, sX11_ahead_83, sX11_ahead_86, sX11_ahead_88, sX11_ahead_89, sX11_ahead_92, sX11_ahead_94, ↓hk103, ↓bndi_at mg', ↓bndi_at mi', ↓bndi_at mi2', ↓bndv_at k1, ↓bndv_at l1, ↓bndi_at mo, ↓bndv_at lb, ↓if_pos, ↓if_neg]
          · rw [show (47 + 7 * (p : Int) + 1).toNat = 48 + 7 * p by omega]
            simp (disch := omega) only [eX11_ahead, sX11_ahead_0, sX11_ahead_1, sX11_ahead_2, sX11_ahead_5, sX11_ahead_8, sX11_ahead_9, sX11_ahead_10, sX11_ahead_11, sX11_ahead_14, sX11_ahead_17, sX11_ahead_20, sX11_ahead_21, sX11_ahead_22, sX11_ahead_23, sX11_ahead_26, sX11_ahead_29, sX11_ahead_32, sX11_ahead_34, sX11_ahead_35, sX11_ahead_36, sX11_ahead_39, sX11_ahead_40, sX11_ahead_41, sX11_ahead_44, sX11_ahead_45, sX11_ahead_48, sX11_ahead_49, sX11_ahead_50, sX11_ahead_53, sX11_ahead_56, sX11_ahead_57, sX11_ahead_58, sX11_ahead_61, sX11_ahead_64, sX11_ahead_65, sX11_ahead_68, sX11_ahead_69, sX11_ahead_70, sX11_ahead_73, sX11_ahead_74, sX11_ahead_75, sX11_ahead_78, sX11_ahead_81, sX11_ahead_82, sX11_ahead_83, sX11_ahead_86, sX11_ahead_88, sX11_ahead_89, sX11_ahead_92, sX11_ahead_94, ↓hk103, ↓bndi_at mg', ↓bndi_at mi', ↓bndi_at mi2', ↓bndv_at k1, ↓bndv_at l1, ↓bndi_at mf, ↓bndv_at lb, ↓if_pos, ↓if_neg]
          · rw [show (47 + 7 * (p : Int) + 2).toNat = 49 + 7 * p by omega]
            simp (disch := omega) only [eX11_ahead, sX11_ahead_0, sX11_ahead_1, sX11_ahead_2, sX11_ahead_5, sX11_ahead_8, sX11_ahead_9, sX11_ahead_10, sX11_ahead_11, sX11_ahead_14, sX11_ahead_17, sX11_ahead_20, sX11_ahead_21, sX11_ahead_22, sX11_ahead_23, sX11_ahead_26, sX11_ahead_29, sX11_ahead_32, sX11_ahead_34, sX11_ahead_35, sX11_ahead_36, sX11_ahead_39, sX11_ahead_40, sX11_ahead_41, sX11_ahead_44, sX11_ahead_45, sX11_ahead_48, sX11_ahead_49, sX11_ahead_50, sX11_ahead_53, sX11_ahead_56, sX11_ahead_57, sX11_ahead_58, sX11_ahead_61, sX11_ahead_64, sX11_ahead_65, sX11_ahead_68, sX11_ahead_69, sX11_ahead_70, sX11_ahead_73, sX11_ahead_74, sX11_ahead_75, sX11_ahead_78, sX11_ahead_81, sX11_ahead_82, sX11_ahead_83, sX11_ahead_86, sX11_ahead_88, sX11_ahead_89, sX11_ahead_92, sX11_ahead_94, ↓hk103, ↓bndi_at mg', ↓bndi_at mi', ↓bndi_at mi2', ↓bndv_at k1, ↓bndv_at l1, ↓bndi_at md, ↓bndv_at lb, ↓if_pos, ↓if_neg]
      · have mg' := mg A F
        have mi' := mi (HP A F E)
        have mi2' := mi2 (HP A F E)
        rw [if_pos z1] at mi'
        rw [if_neg z2] at mi2' wi2
        rw [b.2.2.2.1, if_pos z] at mg'
        refine prs_0 (v := -2) h ?_ ?_
        · simp (disch := omega) only [eX10_ahead, sX10_ahead_0, sX10_ahead_1, sX10_ahead_2, sX10_ahead_5, sX10_ahead_8, sX10_ahead_9, sX10_ahead_10, sX10_ahead_12, sX10_ahead_15, sX10_ahead_18, sX10_ahead_19, sX10_ahead_20, sX10_ahead_21, sX10_ahead_24, sX10_ahead_27, sX10_ahead_29, sX10_ahead_30, sX10_ahead_31, sX10_ahead_34, sX10_ahead_35, sX10_ahead_36, sX10_ahead_37, sX10_ahead_40, sX10_ahead_43, sX10_ahead_44, sX10_ahead_47, sX10_ahead_48, sX10_ahead_49, sX10_ahead_52, ↓hk1, ↓bndi_at ig, ↓bndi_at wi, ↓bndi_at wi2, ↓if_pos, ↓if_neg]
        · simp (disch := omega) only [eX11_ahead, sX11_ahead_0, sX11_ahead_1, sX11_ahead_2, sX11_ahead_5, sX11_ahead_8, sX11_ahead_9, sX11_ahead_10, sX11_ahead_11, sX11_ahead_14, sX11_ahead_17, sX11_ahead_20, sX11_ahead_21, sX11_ahead_22, sX11_ahead_23, sX11_ahead_26, sX11_ahead_29, sX11_ahead_32, sX11_ahead_34, sX11_ahead_35, sX11_ahead_36, sX11_ahead_39, sX11_ahead_40, sX11_ahead_41, sX11_ahead_44, sX11_ahead_45, sX11_ahead_48, sX11_ahead_49, sX11_ahead_50, sX11_ahead_53, sX11_ahead_56, sX11_ahead_57, sX11_ahead_58, sX11_ahead_61, sX11_ahead_64, sX11_ahead_65, sX11_ahead_68, sX11_ahead_69, sX11_ahead_70, sX11_ahead_73, sX11_ahead_74, sX11_ahead_75, sX11_ahead_78, sX11_ahead_81, sX11_ahead_82, sX11_ahead_83, sX11_ahead_86, sX11_ahead_88, sX11_ahead_89, sX11_ahead_92, sX11_ahead_94, ↓hk103, ↓bndi_at mg', ↓bndi_at mi', ↓bndi_at mi2', ↓if_pos, ↓if_neg]
    · have mg' := mg A F
      have mi' := mi (HP A F E)
      rw [if_neg z1] at mi' wi
      rw [b.2.2.2.1, if_pos z] at mg'
      refine prs_0 (v := -2) h ?_ ?_
      · simp (disch := omega) only [eX10_ahead, sX10_ahead_0, sX10_ahead_1, sX10_ahead_2, sX10_ahead_5, sX10_ahead_8, sX10_ahead_9, sX10_ahead_10, sX10_ahead_12, sX10_ahead_15, sX10_ahead_18, sX10_ahead_19, sX10_ahead_20, sX10_ahead_21, sX10_ahead_24, sX10_ahead_27, sX10_ahead_29, sX10_ahead_30, sX10_ahead_31, sX10_ahead_34, sX10_ahead_35, sX10_ahead_36, sX10_ahead_37, sX10_ahead_40, sX10_ahead_43, sX10_ahead_44, sX10_ahead_47, sX10_ahead_48, sX10_ahead_49, sX10_ahead_52, ↓hk1, ↓bndi_at ig, ↓bndi_at wi, ↓if_pos, ↓if_neg]
      · simp (disch := omega) only [eX11_ahead, sX11_ahead_0, sX11_ahead_1, sX11_ahead_2, sX11_ahead_5, sX11_ahead_8, sX11_ahead_9, sX11_ahead_10, sX11_ahead_11, sX11_ahead_14, sX11_ahead_17, sX11_ahead_20, sX11_ahead_21, sX11_ahead_22, sX11_ahead_23, sX11_ahead_26, sX11_ahead_29, sX11_ahead_32, sX11_ahead_34, sX11_ahead_35, sX11_ahead_36, sX11_ahead_39, sX11_ahead_40, sX11_ahead_41, sX11_ahead_44, sX11_ahead_45, sX11_ahead_48, sX11_ahead_49, sX11_ahead_50, sX11_ahead_53, sX11_ahead_56, sX11_ahead_57, sX11_ahead_58, sX11_ahead_61, sX11_ahead_64, sX11_ahead_65, sX11_ahead_68, sX11_ahead_69, sX11_ahead_70, sX11_ahead_73, sX11_ahead_74, sX11_ahead_75, sX11_ahead_78, sX11_ahead_81, sX11_ahead_82, sX11_ahead_83, sX11_ahead_86, sX11_ahead_88, sX11_ahead_89, sX11_ahead_92, sX11_ahead_94, ↓hk103, ↓bndi_at mg', ↓bndi_at mi', ↓if_pos, ↓if_neg]
  · have mg' := mg A F
    rw [b.2.2.2.1, if_neg z] at mg'
    rw [if_neg z] at ig
    refine prs_0 (v := -2) h ?_ ?_
    · simp (disch := omega) only [eX10_ahead, sX10_ahead_0, sX10_ahead_1, sX10_ahead_2, sX10_ahead_5, sX10_ahead_8, sX10_ahead_9, sX10_ahead_10, sX10_ahead_12, sX10_ahead_15, sX10_ahead_18, sX10_ahead_19, sX10_ahead_20, sX10_ahead_21, sX10_ahead_24, sX10_ahead_27, sX10_ahead_29, sX10_ahead_30, sX10_ahead_31, sX10_ahead_34, sX10_ahead_35, sX10_ahead_36, sX10_ahead_37, sX10_ahead_40, sX10_ahead_43, sX10_ahead_44, sX10_ahead_47, sX10_ahead_48, sX10_ahead_49, sX10_ahead_52, ↓hk1, ↓bndi_at ig, ↓if_pos, ↓if_neg]
    · simp (disch := omega) only [eX11_ahead, sX11_ahead_0, sX11_ahead_1, sX11_ahead_2, sX11_ahead_5, sX11_ahead_8, sX11_ahead_9, sX11_ahead_10, sX11_ahead_11, sX11_ahead_14, sX11_ahead_17, sX11_ahead_20, sX11_ahead_21, sX11_ahead_22, sX11_ahead_23, sX11_ahead_26, sX11_ahead_29, sX11_ahead_32, sX11_ahead_34, sX11_ahead_35, sX11_ahead_36, sX11_ahead_39, sX11_ahead_40, sX11_ahead_41, sX11_ahead_44, sX11_ahead_45, sX11_ahead_48, sX11_ahead_49, sX11_ahead_50, sX11_ahead_53, sX11_ahead_56, sX11_ahead_57, sX11_ahead_58, sX11_ahead_61, sX11_ahead_64, sX11_ahead_65, sX11_ahead_68, sX11_ahead_69, sX11_ahead_70, sX11_ahead_73, sX11_ahead_74, sX11_ahead_75, sX11_ahead_78, sX11_ahead_81, sX11_ahead_82, sX11_ahead_83, sX11_ahead_86, sX11_ahead_88, sX11_ahead_89, sX11_ahead_92, sX11_ahead_94, ↓hk103, ↓bndi_at mg', ↓if_pos, ↓if_neg]
theorem c_bits {A F : Nat → Nat → Int} {b : Nat} {s : Int} (h : cw A F E G Q b) : cl mX9_bitsOf [vr 14, vi s] (HP A F E) = some (vi (bitsN s (A 15) G), HP A F E) := h_bits wad_14 h.1.1 h.1.2.1
theorem mw_bits {A F : Nat → Nat → Int} {f s0 : Nat → Int} {s : Int} (h : mw A F G Q f s0) : cl mX11_onesWhoAre [vr 103, vi s] (HP A F E) = some (vi (bitsN s f G), HP A F E) := by
  have := m_bits (A := A) (F := F) (E := E) (s := s) (G := G) (by rw [sd_1 h.2.1]; exact h.1.1) h.1.2.1
  rw [sd_bits h.2.1 h.1.2.1] at this
  exact this
theorem k_gone {n : Int} (h : inv A F E) : prs mX10_gone mX11_gone [vi n] A F E := by
  have b := iS_b h.2.2.2.1
  have hs := E_hasSheet (A := A) (F := F) (E := E)
  have ms := fun A1 F1 => m_isSheet (A := A1) (F := F1) (E := E)
  have wi := E_within (v := n) (lo := 0) (hi := 100) (h := HP A F E)
  have mi := fun H => m_in (v := n) (lo := 0) (hi := 100) (h := H)
  by_cases z : 0 < A 13 0
  · rw [if_pos z] at hs
    by_cases z1 : 0 ≤ n ∧ n ≤ 100
    · rw [if_pos z1] at wi
      obtain ⟨G, r⟩ := b.2.2.2.2.2.2.mp z
      obtain ⟨Q, q1, q2⟩ := inv_Q h
      obtain ⟨m, rfl⟩ : ∃ m : Nat, n = (m : Int) := ⟨n.toNat, by omega⟩
      obtain ⟨A1, F1, s1, s2, s3, s4, _⟩ := c_restart h r q1
      obtain ⟨A2, F2, t1, t2, t3, t4, _⟩ := c_walk (m := m) (by omega) s4
      have c2 := cfr_t s3 t3
      have rf := c_force h s3
      rw [s2] at t2
      have cb := c_bits (s := 2) t4
      rw [t2] at cb
      obtain ⟨A3, k1, k2, k3⟩ := q_start (E := E) r c2 q2
      obtain ⟨A4, F4, l1, l2, l3⟩ := mw_passN (m := m) (E := E) (by omega) k3
      have lb := mw_lays (E := E) l3
      have mb := mw_bits (s := 2) (E := E) l3
      have ms' := ms A2 F2
      rw [cfr_113 c2, if_pos (b.2.2.2.2.1.mpr z)] at ms'
      have mi' := mi (HP A2 F2 E)
      rw [if_pos z1] at mi'
      refine prs_q h (v := bitsN 2 (psN Q G m (A 13)) G) ?_ c2 t4.2.1 ?_ (mqf_of k2 l2)
      · simp (disch := omega) only [eX10_gone, sX10_gone_0, sX10_gone_1, sX10_gone_4, sX10_gone_7, sX10_gone_8, sX10_gone_9, sX10_gone_11, sX10_gone_14, sX10_gone_17, sX10_gone_18, sX10_gone_19, sX10_gone_20, sX10_gone_23, sX10_gone_24, sX10_gone_25, sX10_gone_26, sX10_gone_29, sX10_gone_32, sX10_gone_33, sX10_gone_36, sX10_gone_37, sX10_gone_40, ↓hk1, ↓hf1_9, ↓hk14, ↓bndi_at hs, ↓bndi_at wi, ↓bndv_at s1, ↓bndr_at rf, ↓bndv_at t1, ↓bndi_at cb, ↓if_pos, ↓if_neg]
      · simp (disch := omega) only [eX11_gone, sX11_gone_0, sX11_gone_1, sX11_gone_4, sX11_gone_7, sX11_gone_8, sX11_gone_9, sX11_gone_10, sX11_gone_13, sX11_gone_16, sX11_gone_19, sX11_gone_20, sX11_gone_21, sX11_gone_22, sX11_gone_25, sX11_gone_26, sX11_gone_27, sX11_gone_30, sX11_gone_31, sX11_gone_32, sX11_gone_35, sX11_gone_36, sX11_gone_37, sX11_gone_40, sX11_gone_41, ↓hk103, ↓bndi_at ms', ↓bndi_at mi', ↓bndv_at k1, ↓bndv_at l1, ↓bndi_at mb, ↓bndv_at lb, ↓if_pos, ↓if_neg]
    · have ms' := ms A F
      have mi' := mi (HP A F E)
      rw [if_neg z1] at mi' wi
      rw [if_pos (b.2.2.2.2.1.mpr z)] at ms'
      refine prs_0 (v := -1) h ?_ ?_
      · simp (disch := omega) only [eX10_gone, sX10_gone_0, sX10_gone_1, sX10_gone_4, sX10_gone_7, sX10_gone_8, sX10_gone_9, sX10_gone_11, sX10_gone_14, sX10_gone_17, sX10_gone_18, sX10_gone_19, sX10_gone_20, sX10_gone_23, sX10_gone_24, sX10_gone_25, sX10_gone_26, sX10_gone_29, sX10_gone_32, sX10_gone_33, sX10_gone_36, sX10_gone_37, sX10_gone_40, ↓hk1, ↓bndi_at hs, ↓bndi_at wi, ↓if_pos, ↓if_neg]
      · simp (disch := omega) only [eX11_gone, sX11_gone_0, sX11_gone_1, sX11_gone_4, sX11_gone_7, sX11_gone_8, sX11_gone_9, sX11_gone_10, sX11_gone_13, sX11_gone_16, sX11_gone_19, sX11_gone_20, sX11_gone_21, sX11_gone_22, sX11_gone_25, sX11_gone_26, sX11_gone_27, sX11_gone_30, sX11_gone_31, sX11_gone_32, sX11_gone_35, sX11_gone_36, sX11_gone_37, sX11_gone_40, sX11_gone_41, ↓hk103, ↓bndi_at ms', ↓bndi_at mi', ↓if_pos, ↓if_neg]
  · have ms' := ms A F
    rw [if_neg z] at hs
    rw [if_neg (fun q => z (b.2.2.2.2.1.mp q))] at ms'
    refine prs_0 (v := -1) h ?_ ?_
    · simp (disch := omega) only [eX10_gone, sX10_gone_0, sX10_gone_1, sX10_gone_4, sX10_gone_7, sX10_gone_8, sX10_gone_9, sX10_gone_11, sX10_gone_14, sX10_gone_17, sX10_gone_18, sX10_gone_19, sX10_gone_20, sX10_gone_23, sX10_gone_24, sX10_gone_25, sX10_gone_26, sX10_gone_29, sX10_gone_32, sX10_gone_33, sX10_gone_36, sX10_gone_37, sX10_gone_40, ↓hk1, ↓bndi_at hs, ↓if_pos, ↓if_neg]
    · simp (disch := omega) only [eX11_gone, sX11_gone_0, sX11_gone_1, sX11_gone_4, sX11_gone_7, sX11_gone_8, sX11_gone_9, sX11_gone_10, sX11_gone_13, sX11_gone_16, sX11_gone_19, sX11_gone_20, sX11_gone_21, sX11_gone_22, sX11_gone_25, sX11_gone_26, sX11_gone_27, sX11_gone_30, sX11_gone_31, sX11_gone_32, sX11_gone_35, sX11_gone_36, sX11_gone_37, sX11_gone_40, sX11_gone_41, ↓hk103, ↓bndi_at ms', ↓if_pos, ↓if_neg]
end A1
