/-! Notes in the whole heap; note -/
def nob (p : Nat) : Prop := p = 16 ∨ (67 ≤ p ∧ p < 103 ∧ (p - 67) % 9 = 5)
section NH
variable {A F : Nat → Nat → Int} {E : zE} {p : Nat} {a f fs fg fc : Nat → Int} {z : Int}
theorem hc_n (h : nob p) : hc E p a f = zob 3 [vr (p + 1), vr (p + 2), vr (p + 3), vi (f 3)] ∧ hc E (p + 1) a f = zar 1 10 a ∧ hc E (p + 2) a f = zar 1 10 a ∧ hc E (p + 3) a f = zar 1 10 a := by
  rcases h with rfl | ⟨h1, h2, h3⟩
  · exact ⟨rfl, rfl, rfl, rfl⟩
  · unfold hc
    refine ⟨?_, ?_, ?_, ?_⟩
    · rw [if_neg (by omega), if_neg (by omega), if_pos (by omega), if_neg (by omega), if_neg (by omega), if_neg (by omega), if_pos (by omega)]
    · rw [if_neg (by omega), if_neg (by omega), if_pos (by omega), if_neg (by omega), if_neg (by omega), if_neg (by omega), if_neg (by omega)]
    · rw [if_neg (by omega), if_neg (by omega), if_pos (by omega), if_neg (by omega), if_neg (by omega), if_neg (by omega), if_neg (by omega)]
    · rw [if_neg (by omega), if_neg (by omega), if_pos (by omega), if_neg (by omega), if_neg (by omega), if_neg (by omega), if_neg (by omega)]
theorem hp_n (h : nob p) : isN (HP A F E) p (p + 1) (p + 2) (p + 3) (A (p + 1)) (A (p + 2)) (A (p + 3)) (F p 3) := ⟨(hc_n h).1, (hc_n h).2.1, (hc_n h).2.2.1, (hc_n h).2.2.2⟩
theorem hp_nst (h : nob p) : nst (HP A F E) p (p + 1) (p + 2) (p + 3) fs fg fc z = HP (aup (aup (aup A (p + 1) fs) (p + 2) fg) (p + 3) fc) (aup F p (fup (F p) 3 z)) E := by
  unfold nst
  rw [zup_HPa (hc_n h).2.1, zup_HPa (hc_n h).2.2.1, zup_HPa (hc_n h).2.2.2, zup_HPf (f := fup (F p) 3 z) (by rw [(hc_n h).1, fup_s])]
theorem nob_16 : nob 16 := Or.inl rfl
theorem h_ncopy {q : Nat} (h : nob p) (hq : nob q) (d : p ≠ q) (hW : iW A) : cl mX4_copyFrom [vr p, vr q] (HP A F E) = some (vn, HP (aup (aup (aup A (p + 1) (A (q + 1))) (p + 2) (A (q + 2))) (p + 3) (A (q + 3))) (aup F p (fup (F p) 3 (F q 3))) E) := by
  have n1 := hp_n (A := A) (F := F) (E := E) h
  have n2 := hp_n (A := A) (F := F) (E := E) hq
  have na : ∀ {x : Nat}, nob x → nad (x + 1) ∧ nad (x + 2) ∧ nad (x + 3) := fun {x} hx => by unfold nob at hx; unfold nad; omega
  have dd : p + 9 ≤ q ∨ q + 9 ≤ p := by unfold nob at h hq; omega
  have := N_copy n1 n2 (by omega) (by omega) (by omega) (by omega) (by omega) (by omega) (by omega) (by omega) (by omega) (by omega) (by omega) (by omega) (hW.2 _ (na h).1) (hW.2 _ (na h).2.1) (hW.2 _ (na h).2.2) (hW.2 _ (na hq).1) (hW.2 _ (na hq).2.1) (hW.2 _ (na hq).2.2)
  rw [hp_nst h] at this
  exact this
theorem h_nclear : cl mX4_clear [vr 16] (HP A F E) = some (vn, HP A (aup F 16 (fup (F 16) 3 0)) E) := by
  have := N_clear (h := HP A F E) (p := 16) (s := 17) (g := 18) (c := 19) (z := F 16 3) rfl
  exact this.trans (congrArg (fun x => some (vn, x)) (zup_HPf (f := fup (F 16) 3 0) rfl))
theorem h_nfull : cl mX4_isFull [vr 16] (HP A F E) = some (vi (if F 16 3 < 10 then 0 else 1), HP A F E) := N_isFull (s := 17) (g := 18) (c := 19) rfl
theorem h_nsize : cl mX4_size [vr 16] (HP A F E) = some (vi (F 16 3), HP A F E) := N_size (s := 17) (g := 18) (c := 19) rfl
theorem h_nadd {n g c : Int} (h0 : 0 ≤ F 16 3) (h1 : F 16 3 < 10) : cl mX4_add [vr 16, vi n, vi g, vi c] (HP A F E) = some (vn, HP (aup (aup (aup A 17 (fup (A 17) (F 16 3).toNat n)) 18 (fup (A 18) (F 16 3).toNat g)) 19 (fup (A 19) (F 16 3).toNat c)) (aup F 16 (fup (F 16) 3 (F 16 3 + 1))) E) := by
  obtain ⟨Z, hZ⟩ : ∃ Z : Nat, F 16 3 = (Z : Int) := ⟨(F 16 3).toNat, by omega⟩
  have n1 := hp_n (A := A) (F := F) (E := E) nob_16
  rw [hZ] at n1
  have := N_add (n := n) (go := g) (ce := c) n1 (by omega) (by omega) (by omega) (by omega) (by omega) (by omega) (by omega)
  rw [hp_nst nob_16] at this
  rw [this, hZ, Int.toNat_natCast]
  rfl
/-- what speaks of neither the notes nor their number -/
theorem inv_note {A2 F2 : Nat → Nat → Int} (h : inv A F E) (kA : ∀ j, j ≠ 17 → j ≠ 18 → j ≠ 19 → j ≠ 113 → A2 j = A j) (kF : ∀ j, j ≠ 16 → F2 j = F j) (k1 : cn 10 (A2 17)) (k2 : cn 10 (A2 18)) (k3 : cn 10 (A2 19)) (s : iS A2 F2) : inv A2 F2 E := by
  obtain ⟨hT, hR, hW, hS, hH, hI⟩ := h
  refine ⟨?_, ?_, ?_, s, ?_, ?_⟩
  · exact iT_f hT (kA 3 (by omega) (by omega) (by omega) (by omega)) (kA 104 (by omega) (by omega) (by omega) (by omega)) (kF 2 (by omega)) (by rw [kF 103 (by omega)])
  · obtain ⟨r1, r2, r3, r4, r5, r6, r7, r8, r9⟩ := hR
    refine ⟨r1, r2, by rw [kF 1 (by omega)]; exact r3, by rw [kF 103 (by omega)]; exact r4, by rw [kF 1 (by omega)]; exact r5, by rw [kF 103 (by omega), kF 1 (by omega)]; exact r6, by rw [kF 103 (by omega), kF 1 (by omega)]; exact r7, by rw [kF 1 (by omega)]; exact r8, fun i hi => RU_f (r9 i hi) (kA _ (by omega) (by omega) (by omega) (by omega)) (kA _ (by omega) (by omega) (by omega) (by omega)) (kA _ (by omega) (by omega) (by omega) (by omega)) (kA _ (by omega) (by omega) (by omega) (by omega))⟩
  · refine ⟨fun a ha => ?_, fun j hj => ?_⟩
    · have := wad_b ha
      rw [kA (a + 1) (by unfold wad at ha; omega) (by unfold wad at ha; omega) (by unfold wad at ha; omega) (by omega)]; exact hW.1 a ha
    · by_cases q1 : j = 17
      · rw [q1]; exact k1
      · by_cases q2 : j = 18
        · rw [q2]; exact k2
        · by_cases q3 : j = 19
          · rw [q3]; exact k3
          · rw [kA j q1 q2 q3 (by unfold nad at hj; omega)]; exact hW.2 j hj
  · exact iH_f hH (fun j hj => kA j (by omega) (by omega) (by omega) (by omega)) (kF 20 (by omega)) (by rw [kF 103 (by omega)])
  · exact iI_f hI (fun j hj => kA j (by omega) (by omega) (by omega) (by omega)) (fun j _ _ => kF j (by omega))
theorem SR1_note {G : Nat} {f t fs fg fc fs' fg' fc' s s' : Nat → Int} {z z' : Int} (h : SR1 G f t fs fg fc z s) (hk : ∀ j, j < 145 → s' j = s j) (hz : 0 ≤ z' ∧ z' ≤ 10) (h5 : s' 175 = z') (hn : ∀ k : Nat, (k : Int) < z' → NR fs' fg' fc' s' G k) : SR1 G f t fs' fg' fc' z' s' := by
  obtain ⟨h1, h2, h3, h4, h5', h6, h7, h8, h9, h10, h11⟩ := h
  refine ⟨h1, h2, by rw [hk 0 (by omega)]; exact h3, ?_, ?_, h6, h7, hz, h5, hn, h11⟩
  · refine ⟨by rw [hk 1 (by omega)]; exact h4.1, by rw [hk 2 (by omega)]; exact h4.2.1, fun e he => by rw [hk _ (by omega)]; exact h4.2.2.1 e he, sds_c h4.2.2.2 (fun j hj => hk _ (by omega))⟩
  · obtain ⟨t1, t2, t3, t4⟩ := h5'
    refine ⟨t1, fun e he => by rw [hk _ (by omega)]; exact t2 e he, fun c hc => by rw [hk _ (by omega)]; exact t3 c hc, fun g hg => ?_⟩
    rw [hk (90 + 3 * g) (by omega), hk (91 + 3 * g) (by omega), hk (92 + 3 * g) (by omega)]
    exact t4 g hg
theorem k_note {n g c : Int} (h : inv A F E) : prs mX10_note mX11_note [vi n, vi g, vi c] A F E := by
  have b := iS_b h.2.2.2.1
  have hS := h.2.2.2.1
  by_cases z0 : n = -1
  · refine ⟨0, A, aup F 16 (fup (F 16) 3 0), E, aup A 113 (fup (A 113) 175 0), aup F 16 (fup (F 16) 3 0), E, ?_, ?_, ?_, rfl⟩
    · simp (disch := omega) only [eX10_note, sX10_note_0, sX10_note_1, sX10_note_2, sX10_note_5, sX10_note_6, sX10_note_9, sX10_note_12, sX10_note_13, sX10_note_14, sX10_note_15, sX10_note_16, sX10_note_18, sX10_note_21, sX10_note_24, sX10_note_25, sX10_note_26, sX10_note_29, sX10_note_32, sX10_note_33, sX10_note_34, sX10_note_37, sX10_note_38, sX10_note_39, sX10_note_42, sX10_note_45, sX10_note_46, sX10_note_49, sX10_note_50, sX10_note_52, sX10_note_54, sX10_note_57, sX10_note_58, sX10_note_61, sX10_note_64, sX10_note_67, sX10_note_69, sX10_note_70, sX10_note_71, sX10_note_74, sX10_note_75, sX10_note_76, sX10_note_77, sX10_note_80, sX10_note_81, sX10_note_84, sX10_note_87, ↓hf1_10, ↓hk16, ↓bndv_at h_nclear, ↓if_pos, ↓if_neg]
    · simp (disch := omega) only [eX11_note, sX11_note_0, sX11_note_1, sX11_note_2, sX11_note_5, sX11_note_6, sX11_note_9, sX11_note_12, sX11_note_13, sX11_note_14, sX11_note_15, sX11_note_16, sX11_note_17, sX11_note_18, sX11_note_19, sX11_note_22, sX11_note_25, sX11_note_28, sX11_note_29, sX11_note_30, sX11_note_33, sX11_note_36, sX11_note_37, sX11_note_38, sX11_note_41, sX11_note_42, sX11_note_43, sX11_note_46, sX11_note_49, sX11_note_50, sX11_note_53, sX11_note_56, sX11_note_57, sX11_note_59, sX11_note_62, sX11_note_64, sX11_note_65, sX11_note_68, sX11_note_69, sX11_note_70, sX11_note_73, sX11_note_76, sX11_note_77, sX11_note_78, sX11_note_79, sX11_note_81, sX11_note_82, sX11_note_85, sX11_note_87, sX11_note_88, sX11_note_89, sX11_note_90, sX11_note_93, sX11_note_95, sX11_note_96, sX11_note_97, sX11_note_98, sX11_note_99, sX11_note_100, sX11_note_103, sX11_note_105, sX11_note_106, sX11_note_107, sX11_note_108, sX11_note_109, sX11_note_110, sX11_note_113, sX11_note_116, sX11_note_117, sX11_note_118, sX11_note_119, sX11_note_120, sX11_note_121, sX11_note_122, sX11_note_125, sX11_note_128, sX11_note_129, ↓hf103_20, ↓hs113, Int.reduceToNat, ↓if_pos, ↓if_neg]
    · refine inv_note h (fun j _ _ _ j4 => aup_n j4) (fun j hj => aup_n hj) ?_ ?_ ?_ ?_
      · rw [aup_n (by omega)]; exact h.2.2.1.2 17 (by unfold nad; omega)
      · rw [aup_n (by omega)]; exact h.2.2.1.2 18 (by unfold nad; omega)
      · rw [aup_n (by omega)]; exact h.2.2.1.2 19 (by unfold nad; omega)
      · unfold iS
        simp (disch := omega) only [aup_s, aup_n, fup_s]
        rcases hS with ⟨s1, s2, s3, s4⟩ | ⟨G, r⟩
        · refine Or.inl ⟨s1, s2, rfl, fun j hj => ?_⟩
          by_cases q : j = 175
          · rw [q, fup_s]
          · rw [fup_n q]; exact s4 j hj
        · exact Or.inr ⟨G, SR1_note r (fun j hj => fup_n (by omega)) (by omega) fup_s (fun k hk => by omega)⟩
  · have wi := E_within (v := n) (lo := 0) (hi := 60) (h := HP A F E)
    have ig := E_isGoer (A := A) (F := F) (E := E) (g := g) b.2.1.1 b.2.1.2
    have ic := E_isCell (A := A) (F := F) (E := E) (c := c) b.1.1 b.1.2
    have nf := h_nfull (A := A) (F := F) (E := E)
    have mi := fun H => m_in (v := n) (lo := 0) (hi := 60) (h := H)
    have mg := fun A1 F1 => m_isGoer (A := A1) (F := F1) (E := E) (g := g)
    have mc := fun (A1 F1 : Nat → Nat → Int) (e : A1 113 = A 113) => m_isCell (A := A1) (F := F1) (E := E) (c := c) (by rw [e, b.2.2.1]; exact b.1.1) (by rw [e, b.2.2.1]; exact b.1.2)
    by_cases z1 : 0 ≤ n ∧ n ≤ 60
    · rw [if_pos z1] at wi
      by_cases z2 : 0 ≤ g ∧ g < A 13 1
      · rw [if_pos z2] at ig
        obtain ⟨G, r⟩ := b.2.2.2.2.2.2.mp (b.2.2.2.2.2.1 (by omega))
        have zb := r.2.2.2.2.2.2.2.1
        have s175 := r.2.2.2.2.2.2.2.2.1
        have q36 := sq_b b.1.1 b.1.2
        by_cases z3 : c = -1 ∨ (0 ≤ c ∧ c < A 13 0 * A 13 0)
        · by_cases z4 : F 16 3 < 10
          · rw [if_pos z4] at nf
            have ad := h_nadd (A := A) (F := F) (E := E) (n := n) (g := g) (c := c) zb.1 z4
            obtain ⟨Z, hZ⟩ : ∃ Z : Nat, F 16 3 = (Z : Int) := ⟨(F 16 3).toNat, by omega⟩
            generalize hA1 : aup (aup (aup A 17 (fup (A 17) (F 16 3).toNat n)) 18 (fup (A 18) (F 16 3).toNat g)) 19 (fup (A 19) (F 16 3).toNat c) = A1 at ad
            generalize hF1 : aup F 16 (fup (F 16) 3 (F 16 3 + 1)) = F1 at ad
            have nz := h_nsize (A := A1) (F := F1) (E := E)
            have f16 : F1 16 3 = F 16 3 + 1 := by rw [← hF1, aup_s, fup_s]
            rw [f16] at nz
            have a113 : A1 113 = A 113 := by rw [← hA1, aup_n (by omega), aup_n (by omega), aup_n (by omega)]
            have mi' := mi (HP A1 F1 E)
            have mg' := mg A1 F1
            have mc' := mc A1 F1 a113
            rw [if_pos z1] at mi'
            rw [a113, b.2.2.2.1, if_pos z2] at mg'
            rw [a113, b.2.2.1] at mc'
            have x0 : (145 + 3 * (Z : Int)).toNat = 145 + 3 * Z := by omega
            have x1 : (145 + 3 * (Z : Int) + 1).toNat = 146 + 3 * Z := by omega
            have x2 : (145 + 3 * (Z : Int) + 2).toNat = 147 + 3 * Z := by omega
            refine ⟨F 16 3 + 1, A1, F1, E, aup A1 113 (fup (fup (fup (fup (A 113) (145 + 3 * Z) n) (146 + 3 * Z) g) (147 + 3 * Z) c) 175 (F 16 3 + 1)), F1, E, ?_, ?_, ?_, rfl⟩
            · by_cases y : c = -1
              · simp (disch := omega) only [eX10_note, sX10_note_0, sX10_note_1, sX10_note_2, sX10_note_5, sX10_note_6, sX10_note_9, sX10_note_12, sX10_note_13, sX10_note_14, sX10_note_15, sX10_note_16, sX10_note_18, sX10_note_21, sX10_note_24, sX10_note_25, sX10_note_26, sX10_note_29, sX10_note_32, sX10_note_33, sX10_note_34, sX10_note_37, sX10_note_38, sX10_note_39, sX10_note_42, sX10_note_45, sX10_note_46, sX10_note_49, sX10_note_50, sX10_note_52, sX10_note_54, sX10_note_57, sX10_note_58, sX10_note_61, sX10_note_64, sX10_note_67, sX10_note_69, sX10_note_70, sX10_note_71, sX10_note_74, sX10_note_75, sX10_note_76, sX10_note_77, sX10_note_80, sX10_note_81, sX10_note_84, sX10_note_87, ↓hk1, ↓hf1_10, ↓hk16, ↓bndi_at wi, ↓bndi_at ig, ↓bndi_at nf, ↓bndv_at ad, ↓bndi_at nz, ↓if_pos, ↓if_neg]
              · have ic' := ic
                rw [if_pos (by omega)] at ic'
                simp (disch := omega) only [eX10_note, sX10_note_0, sX10_note_1, sX10_note_2, sX10_note_5, sX10_note_6, sX10_note_9, sX10_note_12, sX10_note_13, sX10_note_14, sX10_note_15, sX10_note_16, sX10_note_18, sX10_note_21, sX10_note_24, sX10_note_25, sX10_note_26, sX10_note_29, sX10_note_32, sX10_note_33, sX10_note_34, sX10_note_37, sX10_note_38, sX10_note_39, sX10_note_42, sX10_note_45, sX10_note_46, sX10_note_49, sX10_note_50, sX10_note_52, sX10_note_54, sX10_note_57, sX10_note_58, sX10_note_61, sX10_note_64, sX10_note_67, sX10_note_69, sX10_note_70, sX10_note_71, sX10_note_74, sX10_note_75, sX10_note_76, sX10_note_77, sX10_note_80, sX10_note_81, sX10_note_84, sX10_note_87, ↓hk1, ↓hf1_10, ↓hk16, ↓bndi_at wi, ↓bndi_at ig, ↓bndi_at ic', ↓bndi_at nf, ↓bndv_at ad, ↓bndi_at nz, ↓if_pos, ↓if_neg]
            · have s175' : A 113 175 = (Z : Int) := by rw [s175, hZ]
              rw [hZ]
              by_cases y : c = -1
              · simp (disch := omega) only [eX11_note, sX11_note_0, sX11_note_1, sX11_note_2, sX11_note_5, sX11_note_6, sX11_note_9, sX11_note_12, sX11_note_13, sX11_note_14, sX11_note_15, sX11_note_16, sX11_note_17, sX11_note_18, sX11_note_19, sX11_note_22, sX11_note_25, sX11_note_28, sX11_note_29, sX11_note_30, sX11_note_33, sX11_note_36, sX11_note_37, sX11_note_38, sX11_note_41, sX11_note_42, sX11_note_43, sX11_note_46, sX11_note_49, sX11_note_50, sX11_note_53, sX11_note_56, sX11_note_57, sX11_note_59, sX11_note_62, sX11_note_64, sX11_note_65, sX11_note_68, sX11_note_69, sX11_note_70, sX11_note_73, sX11_note_76, sX11_note_77, sX11_note_78, sX11_note_79, sX11_note_81, sX11_note_82, sX11_note_85, sX11_note_87, sX11_note_88, sX11_note_89, sX11_note_90, sX11_note_93, sX11_note_95, sX11_note_96, sX11_note_97, sX11_note_98, sX11_note_99, sX11_note_100, sX11_note_103, sX11_note_105, sX11_note_106, sX11_note_107, sX11_note_108, sX11_note_109, sX11_note_110, sX11_note_113, sX11_note_116, sX11_note_117, sX11_note_118, sX11_note_119, sX11_note_120, sX11_note_121, sX11_note_122, sX11_note_125, sX11_note_128, sX11_note_129, ↓hk103, ↓hf103_20, ↓hg113, ↓hs113, ↓bndi_at mi', ↓bndi_at mg', a113, Int.reduceToNat, s175', i32_of, x0, x1, x2, aup_s, aup_aup, fup_s, fup_n, ↓if_pos, ↓if_neg]
              · rw [if_pos (by omega)] at mc'
                simp (disch := omega) only [eX11_note, sX11_note_0, sX11_note_1, sX11_note_2, sX11_note_5, sX11_note_6, sX11_note_9, sX11_note_12, sX11_note_13, sX11_note_14, sX11_note_15, sX11_note_16, sX11_note_17, sX11_note_18, sX11_note_19, sX11_note_22, sX11_note_25, sX11_note_28, sX11_note_29, sX11_note_30, sX11_note_33, sX11_note_36, sX11_note_37, sX11_note_38, sX11_note_41, sX11_note_42, sX11_note_43, sX11_note_46, sX11_note_49, sX11_note_50, sX11_note_53, sX11_note_56, sX11_note_57, sX11_note_59, sX11_note_62, sX11_note_64, sX11_note_65, sX11_note_68, sX11_note_69, sX11_note_70, sX11_note_73, sX11_note_76, sX11_note_77, sX11_note_78, sX11_note_79, sX11_note_81, sX11_note_82, sX11_note_85, sX11_note_87, sX11_note_88, sX11_note_89, sX11_note_90, sX11_note_93, sX11_note_95, sX11_note_96, sX11_note_97, sX11_note_98, sX11_note_99, sX11_note_100, sX11_note_103, sX11_note_105, sX11_note_106, sX11_note_107, sX11_note_108, sX11_note_109, sX11_note_110, sX11_note_113, sX11_note_116, sX11_note_117, sX11_note_118, sX11_note_119, sX11_note_120, sX11_note_121, sX11_note_122, sX11_note_125, sX11_note_128, sX11_note_129, ↓hk103, ↓hf103_20, ↓hg113, ↓hs113, ↓bndi_at mi', ↓bndi_at mg', ↓bndi_at mc', a113, Int.reduceToNat, s175', i32_of, x0, x1, x2, aup_s, aup_aup, fup_s, fup_n, ↓if_pos, ↓if_neg]
            · refine inv_note h (fun j j1 j2 j3 j4 => ?_) (fun j hj => ?_) ?_ ?_ ?_ ?_
              · rw [aup_n j4, ← hA1, aup_n j3, aup_n j2, aup_n j1]
              · rw [← hF1]; exact aup_n hj
              · rw [aup_n (by omega), ← hA1, aup_n (by omega), aup_n (by omega), aup_s]; exact cn_up (h.2.2.1.2 17 (by unfold nad; omega)) (by omega)
              · rw [aup_n (by omega), ← hA1, aup_n (by omega), aup_s]; exact cn_up (h.2.2.1.2 18 (by unfold nad; omega)) (by omega)
              · rw [aup_n (by omega), ← hA1, aup_s]; exact cn_up (h.2.2.1.2 19 (by unfold nad; omega)) (by omega)
              · unfold iS
                rw [f16, aup_s, ← hA1]
                simp (disch := omega) only [aup_s, aup_n]
                rw [hZ, Int.toNat_natCast]
                refine Or.inr ⟨G, SR1_note r (fun j hj => ?_) (by omega) fup_s (fun k hk => ?_)⟩
                · rw [fup_n (by omega), fup_n (by omega), fup_n (by omega), fup_n (by omega)]
                · by_cases q : k = Z
                  · subst q
                    unfold NR
                    have hG : A 13 1 = (G : Int) := r.1.1
                    refine ⟨by rw [fup_s]; exact z1, by rw [fup_s]; omega, by rw [fup_s]; omega, ?_, ?_, ?_⟩
                    · rw [fup_n (by omega), fup_n (by omega), fup_n (by omega), fup_s, fup_s]
                    · rw [fup_n (by omega), fup_n (by omega), fup_s, fup_s]
                    · rw [fup_n (by omega), fup_s, fup_s]
                  · have nr := r.2.2.2.2.2.2.2.2.2.1 k (by omega)
                    unfold NR at nr ⊢
                    simp (disch := omega) only [fup_n]
                    exact nr
          · rw [if_neg z4] at nf
            have z10 : A 113 175 = 10 := by omega
            have mi' := mi (HP A F E)
            have mg' := mg A F
            have mc' := mc A F rfl
            rw [if_pos z1] at mi'
            rw [b.2.2.2.1, if_pos z2] at mg'
            rw [b.2.2.1] at mc'
            refine prs_0 (v := -2) h ?_ ?_
            · by_cases y : c = -1
              · simp (disch := omega) only [eX10_note, sX10_note_0, sX10_note_1, sX10_note_2, sX10_note_5, sX10_note_6, sX10_note_9, sX10_note_12, sX10_note_13, sX10_note_14, sX10_note_15, sX10_note_16, sX10_note_18, sX10_note_21, sX10_note_24, sX10_note_25, sX10_note_26, sX10_note_29, sX10_note_32, sX10_note_33, sX10_note_34, sX10_note_37, sX10_note_38, sX10_note_39, sX10_note_42, sX10_note_45, sX10_note_46, sX10_note_49, sX10_note_50, sX10_note_52, sX10_note_54, sX10_note_57, sX10_note_58, sX10_note_61, sX10_note_64, sX10_note_67, sX10_note_69, sX10_note_70, sX10_note_71, sX10_note_74, sX10_note_75, sX10_note_76, sX10_note_77, sX10_note_80, sX10_note_81, sX10_note_84, sX10_note_87, ↓hk1, ↓hf1_10, ↓hk16, ↓bndi_at wi, ↓bndi_at ig, ↓bndi_at nf, ↓if_pos, ↓if_neg]
              · rw [if_pos (by omega)] at ic
                simp (disch := omega) only [eX10_note, sX10_note_0, sX10_note_1, sX10_note_2, sX10_note_5, sX10_note_6, sX10_note_9, sX10_note_12, sX10_note_13, sX10_note_14, sX10_note_15, sX10_note_16, sX10_note_18, sX10_note_21, sX10_note_24, sX10_note_25, sX10_note_26, sX10_note_29, sX10_note_32, sX10_note_33, sX10_note_34, sX10_note_37, sX10_note_38, sX10_note_39, sX10_note_42, sX10_note_45, sX10_note_46, sX10_note_49, sX10_note_50, sX10_note_52, sX10_note_54, sX10_note_57, sX10_note_58, sX10_note_61, sX10_note_64, sX10_note_67, sX10_note_69, sX10_note_70, sX10_note_71, sX10_note_74, sX10_note_75, sX10_note_76, sX10_note_77, sX10_note_80, sX10_note_81, sX10_note_84, sX10_note_87, ↓hk1, ↓hf1_10, ↓hk16, ↓bndi_at wi, ↓bndi_at ig, ↓bndi_at ic, ↓bndi_at nf, ↓if_pos, ↓if_neg]
            · by_cases y : c = -1
              · simp (disch := omega) only [eX11_note, sX11_note_0, sX11_note_1, sX11_note_2, sX11_note_5, sX11_note_6, sX11_note_9, sX11_note_12, sX11_note_13, sX11_note_14, sX11_note_15, sX11_note_16, sX11_note_17, sX11_note_18, sX11_note_19, sX11_note_22, sX11_note_25, sX11_note_28, sX11_note_29, sX11_note_30, sX11_note_33, sX11_note_36, sX11_note_37, sX11_note_38, sX11_note_41, sX11_note_42, sX11_note_43, sX11_note_46, sX11_note_49, sX11_note_50, sX11_note_53, sX11_note_56, sX11_note_57, sX11_note_59, sX11_note_62, sX11_note_64, sX11_note_65, sX11_note_68, sX11_note_69, sX11_note_70, sX11_note_73, sX11_note_76, sX11_note_77, sX11_note_78, sX11_note_79, sX11_note_81, sX11_note_82, sX11_note_85, sX11_note_87, sX11_note_88, sX11_note_89, sX11_note_90, sX11_note_93, sX11_note_95, sX11_note_96, sX11_note_97, sX11_note_98, sX11_note_99, sX11_note_100, sX11_note_103, sX11_note_105, sX11_note_106, sX11_note_107, sX11_note_108, sX11_note_109, sX11_note_110, sX11_note_113, sX11_note_116, sX11_note_117, sX11_note_118, sX11_note_119, sX11_note_120, sX11_note_121, sX11_note_122, sX11_note_125, sX11_note_128, sX11_note_129, ↓hk103, ↓hf103_20, ↓hg113, ↓bndi_at mi', ↓bndi_at mg', Int.reduceToNat, z10, ↓if_pos, ↓if_neg]
              · rw [if_pos (by omega)] at mc'
                simp (disch := omega) only [eX11_note, sX11_note_0, sX11_note_1, sX11_note_2, sX11_note_5, sX11_note_6, sX11_note_9, sX11_note_12, sX11_note_13, sX11_note_14, sX11_note_15, sX11_note_16, sX11_note_17, sX11_note_18, sX11_note_19, sX11_note_22, sX11_note_25, sX11_note_28, sX11_note_29, sX11_note_30, sX11_note_33, sX11_note_36, sX11_note_37, sX11_note_38, sX11_note_41, sX11_note_42, sX11_note_43, sX11_note_46, sX11_note_49, sX11_note_50, sX11_note_53, sX11_note_56, sX11_note_57, sX11_note_59, sX11_note_62, sX11_note_64, sX11_note_65, sX11_note_68, sX11_note_69, sX11_note_70, sX11_note_73, sX11_note_76, sX11_note_77, sX11_note_78, sX11_note_79, sX11_note_81, sX11_note_82, sX11_note_85, sX11_note_87, sX11_note_88, sX11_note_89, sX11_note_90, sX11_note_93, sX11_note_95, sX11_note_96, sX11_note_97, sX11_note_98, sX11_note_99, sX11_note_100, sX11_note_103, sX11_note_105, sX11_note_106, sX11_note_107, sX11_note_108, sX11_note_109, sX11_note_110, sX11_note_113, sX11_note_116, sX11_note_117, sX11_note_118, sX11_note_119, sX11_note_120, sX11_note_121, sX11_note_122, sX11_note_125, sX11_note_128, sX11_note_129, ↓hk103, ↓hf103_20, ↓hg113, ↓bndi_at mi', ↓bndi_at mg', ↓bndi_at mc', Int.reduceToNat, z10, ↓if_pos, ↓if_neg]
        · have mi' := mi (HP A F E)
          have mg' := mg A F
          have mc' := mc A F rfl
          rw [if_pos z1] at mi'
          rw [b.2.2.2.1, if_pos z2] at mg'
          rw [b.2.2.1, if_neg (by omega)] at mc'
          rw [if_neg (by omega)] at ic
          refine prs_0 (v := -2) h ?_ ?_
          · simp (disch := omega) only [eX10_note, sX10_note_0, sX10_note_1, sX10_note_2, sX10_note_5, sX10_note_6, sX10_note_9, sX10_note_12, sX10_note_13, sX10_note_14, sX10_note_15, sX10_note_16, sX10_note_18, sX10_note_21, sX10_note_24, sX10_note_25, sX10_note_26, sX10_note_29, sX10_note_32, sX10_note_33, sX10_note_34, sX10_note_37, sX10_note_38, sX10_note_39, sX10_note_42, sX10_note_45, sX10_note_46, sX10_note_49, sX10_note_50, sX10_note_52, sX10_note_54, sX10_note_57, sX10_note_58, sX10_note_61, sX10_note_64, sX10_note_67, sX10_note_69, sX10_note_70, sX10_note_71, sX10_note_74, sX10_note_75, sX10_note_76, sX10_note_77, sX10_note_80, sX10_note_81, sX10_note_84, sX10_note_87, ↓hk1, ↓bndi_at wi, ↓bndi_at ig, ↓bndi_at ic, ↓if_pos, ↓if_neg]
          · simp (disch := omega) only [eX11_note, sX11_note_0, sX11_note_1, sX11_note_2, sX11_note_5, sX11_note_6, sX11_note_9, sX11_note_12, sX11_note_13, sX11_note_14, sX11_note_15, sX11_note_16, sX11_note_17, sX11_note_18, sX11_note_19, sX11_note_22, sX11_note_25, sX11_note_28, sX11_note_29, sX11_note_30, sX11_note_33, sX11_note_36, sX11_note_37, sX11_note_38, sX11_note_41, sX11_note_42, sX11_note_43, sX11_note_46, sX11_note_49, sX11_note_50, sX11_note_53, sX11_note_56, sX11_note_57, sX11_note_59, sX11_note_62, sX11_note_64, sX11_note_65, sX11_note_68, sX11_note_69, sX11_note_70, sX11_note_73, sX11_note_76, sX11_note_77, sX11_note_78, sX11_note_79, sX11_note_81, sX11_note_82, sX11_note_85, sX11_note_87, sX11_note_88, sX11_note_89, sX11_note_90, sX11_note_93, sX11_note_95, sX11_note_96, sX11_note_97, sX11_note_98, sX11_note_99, sX11_note_100, sX11_note_103, sX11_note_105, sX11_note_106, sX11_note_107, sX11_note_108, sX11_note_109, sX11_note_110, sX11_note_113, sX11_note_116, sX11_note_117, sX11_note_118, sX11_note_119, sX11_note_120, sX11_note_121, sX11_note_122, sX11_note_125, sX11_note_128, sX11_note_129, ↓hk103, ↓bndi_at mi', ↓bndi_at mg', ↓bndi_at mc', ↓if_pos, ↓if_neg]
      · have mi' := mi (HP A F E)
        have mg' := mg A F
        rw [if_pos z1] at mi'
        rw [b.2.2.2.1, if_neg z2] at mg'
        rw [if_neg z2] at ig
        refine prs_0 (v := -2) h ?_ ?_
        · simp (disch := omega) only [eX10_note, sX10_note_0, sX10_note_1, sX10_note_2, sX10_note_5, sX10_note_6, sX10_note_9, sX10_note_12, sX10_note_13, sX10_note_14, sX10_note_15, sX10_note_16, sX10_note_18, sX10_note_21, sX10_note_24, sX10_note_25, sX10_note_26, sX10_note_29, sX10_note_32, sX10_note_33, sX10_note_34, sX10_note_37, sX10_note_38, sX10_note_39, sX10_note_42, sX10_note_45, sX10_note_46, sX10_note_49, sX10_note_50, sX10_note_52, sX10_note_54, sX10_note_57, sX10_note_58, sX10_note_61, sX10_note_64, sX10_note_67, sX10_note_69, sX10_note_70, sX10_note_71, sX10_note_74, sX10_note_75, sX10_note_76, sX10_note_77, sX10_note_80, sX10_note_81, sX10_note_84, sX10_note_87, ↓hk1, ↓bndi_at wi, ↓bndi_at ig, ↓if_pos, ↓if_neg]
        · simp (disch := omega) only [eX11_note, sX11_note_0, sX11_note_1, sX11_note_2, sX11_note_5, sX11_note_6, sX11_note_9, sX11_note_12, sX11_note_13, sX11_note_14, sX11_note_15, sX11_note_16, sX11_note_17, sX11_note_18, sX11_note_19, sX11_note_22, sX11_note_25, sX11_note_28, sX11_note_29, sX11_note_30, sX11_note_33, sX11_note_36, sX11_note_37, sX11_note_38, sX11_note_41, sX11_note_42, sX11_note_43, sX11_note_46, sX11_note_49, sX11_note_50, sX11_note_53, sX11_note_56, sX11_note_57, sX11_note_59, sX11_note_62, sX11_note_64, sX11_note_65, sX11_note_68, sX11_note_69, sX11_note_70, sX11_note_73, sX11_note_76, sX11_note_77, sX11_note_78, sX11_note_79, sX11_note_81, sX11_note_82, sX11_note_85, sX11_note_87, sX11_note_88, sX11_note_89, sX11_note_90, sX11_note_93, sX11_note_95, sX11_note_96, sX11_note_97, sX11_note_98, sX11_note_99, sX11_note_100, sX11_note_103, sX11_note_105, sX11_note_106, sX11_note_107, sX11_note_108, sX11_note_109, sX11_note_110, sX11_note_113, sX11_note_116, sX11_note_117, sX11_note_118, sX11_note_119, sX11_note_120, sX11_note_121, sX11_note_122, sX11_note_125, sX11_note_128, sX11_note_129, ↓hk103, ↓bndi_at mi', ↓bndi_at mg', ↓if_pos, ↓if_neg]
    · have mi' := mi (HP A F E)
      rw [if_neg z1] at mi' wi
      refine prs_0 (v := -2) h ?_ ?_
      · simp (disch := omega) only [eX10_note, sX10_note_0, sX10_note_1, sX10_note_2, sX10_note_5, sX10_note_6, sX10_note_9, sX10_note_12, sX10_note_13, sX10_note_14, sX10_note_15, sX10_note_16, sX10_note_18, sX10_note_21, sX10_note_24, sX10_note_25, sX10_note_26, sX10_note_29, sX10_note_32, sX10_note_33, sX10_note_34, sX10_note_37, sX10_note_38, sX10_note_39, sX10_note_42, sX10_note_45, sX10_note_46, sX10_note_49, sX10_note_50, sX10_note_52, sX10_note_54, sX10_note_57, sX10_note_58, sX10_note_61, sX10_note_64, sX10_note_67, sX10_note_69, sX10_note_70, sX10_note_71, sX10_note_74, sX10_note_75, sX10_note_76, sX10_note_77, sX10_note_80, sX10_note_81, sX10_note_84, sX10_note_87, ↓hk1, ↓bndi_at wi, ↓if_pos, ↓if_neg]
      · simp (disch := omega) only [eX11_note, sX11_note_0, sX11_note_1, sX11_note_2, sX11_note_5, sX11_note_6, sX11_note_9, sX11_note_12, sX11_note_13, sX11_note_14, sX11_note_15, sX11_note_16, sX11_note_17, sX11_note_18, sX11_note_19, sX11_note_22, sX11_note_25, sX11_note_28, sX11_note_29, sX11_note_30, sX11_note_33, sX11_note_36, sX11_note_37, sX11_note_38, sX11_note_41, sX11_note_42, sX11_note_43, sX11_note_46, sX11_note_49, sX11_note_50, sX11_note_53, sX11_note_56, sX11_note_57, sX11_note_59, sX11_note_62, sX11_note_64, sX11_note_65, sX11_note_68, sX11_note_69, sX11_note_70, sX11_note_73, sX11_note_76, sX11_note_77, sX11_note_78, sX11_note_79, sX11_note_81, sX11_note_82, sX11_note_85, sX11_note_87, sX11_note_88, sX11_note_89, sX11_note_90, sX11_note_93, sX11_note_95, sX11_note_96, sX11_note_97, sX11_note_98, sX11_note_99, sX11_note_100, sX11_note_103, sX11_note_105, sX11_note_106, sX11_note_107, sX11_note_108, sX11_note_109, sX11_note_110, sX11_note_113, sX11_note_116, sX11_note_117, sX11_note_118, sX11_note_119, sX11_note_120, sX11_note_121, sX11_note_122, sX11_note_125, sX11_note_128, sX11_note_129, ↓hk103, ↓bndi_at mi', ↓if_pos, ↓if_neg]
end NH
