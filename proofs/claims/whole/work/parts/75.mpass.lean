/-! the model's step -/
section SDA
variable {s f s' f' : Nat → Int} {g G : Nat}
theorem sdr_at (h : sdr s f) (hg : g < 5) (ds : ∀ j, (j < 11 + 7 * g ∨ 18 + 7 * g ≤ j) → s' j = s j) (df : ∀ j, (j < 47 + 7 * g ∨ 54 + 7 * g ≤ j) → f' j = f j) (k : s' (12 + 7 * g) = f' (48 + 7 * g) ∧ s' (13 + 7 * g) = f' (49 + 7 * g) ∧ s' (14 + 7 * g) = f' (50 + 7 * g) ∧ (f' (50 + 7 * g) = 1 → s' (15 + 7 * g) = f' (51 + 7 * g) ∧ s' (16 + 7 * g) = f' (53 + 7 * g)) ∧ s' (17 + 7 * g) = f' (52 + 7 * g) ∧ (f' (50 + 7 * g) = 0 → s' (11 + 7 * g) = f' (47 + 7 * g))) : sdr s' f' := by
  refine ⟨?_, ?_, ?_, ?_, ?_, ?_, ?_⟩
  · rw [ds 1 (by omega), df 0 (by omega)]; exact h.1
  · rw [ds 2 (by omega), df 1 (by omega)]; exact h.2.1
  · intro e he; rw [ds (86 + e) (by omega), df (7 + e) (by omega)]; exact h.2.2.1 e he
  · show s' (10 + 0) = _
    rw [ds (10 + 0) (by omega), df 2 (by omega)]; exact h.2.2.2.1
  · intro e he
    show s' (10 + (36 + e)) = _
    rw [ds _ (by omega), df _ (by omega)]; exact h.2.2.2.2.1 e he
  · intro c hc
    show s' (10 + (40 + c)) = _
    rw [ds _ (by omega), df _ (by omega)]; exact h.2.2.2.2.2.1 c hc
  · intro i hi
    by_cases q : i = g
    · subst q
      unfold sdg
      simp only [← Nat.add_assoc, Nat.reduceAdd]
      exact k
    · have := h.2.2.2.2.2.2 i hi
      unfold sdg at this ⊢
      simp only [← Nat.add_assoc, Nat.reduceAdd] at this ⊢
      rw [ds (12 + 7 * i) (by omega), ds (13 + 7 * i) (by omega), ds (14 + 7 * i) (by omega), ds (15 + 7 * i) (by omega), ds (16 + 7 * i) (by omega), ds (17 + 7 * i) (by omega), ds (11 + 7 * i) (by omega), df (48 + 7 * i) (by omega), df (49 + 7 * i) (by omega), df (50 + 7 * i) (by omega), df (51 + 7 * i) (by omega), df (52 + 7 * i) (by omega), df (53 + 7 * i) (by omega), df (47 + 7 * i) (by omega)]
      exact this
theorem mfr_113 {A F A1 F1 : Nat → Nat → Int} {u : Nat → Int} (h : mfr A F A1 F1) (k : ∀ j, (j < 10 ∨ 86 ≤ j) → u j = A1 113 j) : mfr A F (aup A1 113 u) F1 :=
  ⟨fun j a b c => by rw [aup_n c]; exact h.1 j a b c, h.2.1, h.2.2.1, fun j hj => by rw [aup_s, k j hj]; exact h.2.2.2 j hj⟩
end SDA
section MP
variable {A F : Nat → Nat → Int} {E : zE} {f : Nat → Int} {G g : Nat} {Q : (Int → Int) → Int}
theorem m_walks (hs : sdr (A 113) f) (ho : wok f G) (hq : mQ A F Q) (hg : g < G) (on : f (50 + 7 * g) = 0) : ∃ A' F', cl mX11_walks [vr 103, vi (g : Int)] (HP A F E) = some (vn, HP A' F' E) ∧ mfr A F A' F' ∧ sdr (A' 113) (wgo (fup f (48 + 7 * g) ((f (48 + 7 * g) + Q (wwd f G g)) % 4)) g) := by
  have hG5 : G ≤ 5 := ho.2.1
  obtain ⟨A1, F1, r1, r2, r3⟩ := m_quarters (E := E) hs ho hq hg on
  have hQ := hq.2.1 (wwd f G g)
  generalize hV : Q (wwd f G g) = V at *
  generalize hFA : (f (48 + 7 * g) + V) % 4 = FA
  have ho1 : wok (fup f (48 + 7 * g) FA) G := wturn_ok ho hg (by omega)
  have gk0 := ho.2.2.2.2.2.2 g hg
  have sg := sd_g hs (g := g) (by omega)
  have on1 : fup f (48 + 7 * g) FA (50 + 7 * g) = 0 := by rw [fup_n (by omega)]; exact on
  have hs1 : sdr (fup (A 113) (12 + 7 * g) FA) (fup f (48 + 7 * g) FA) := by
    refine sdr_at (g := g) hs (by omega) (fun j hj => fup_n (by omega)) (fun j hj => fup_n (by omega)) ?_
    simp (disch := omega) only [fup_s, fup_n]
    exact ⟨(by trivial), sg.2⟩
  have fF : fup f (48 + 7 * g) FA (48 + 7 * g) = FA := fup_s
  have sF : fup (A 113) (12 + 7 * g) FA (12 + 7 * g) = FA := fup_s
  generalize hf1 : fup f (48 + 7 * g) FA = f1 at *
  generalize hS1 : fup (A 113) (12 + 7 * g) FA = S1 at *
  have gk := ho1.2.2.2.2.2.2 g hg
  have s1 : 1 ≤ f1 0 ∧ f1 0 ≤ 6 := ho1.2.2.1
  have sg1 := sd_g hs1 (g := g) (by omega)
  unfold gok at gk gk0
  obtain ⟨b1, b2, b3, b4, b5, b6, b7, b8⟩ := gk
  have b6 := b6 on1
  have sq := sq_b (s := f1 0) (by omega) s1.2
  have e0 := sd_0 hs1
  have x1 : (11 + 7 * (g : Int)).toNat = 11 + 7 * g := by omega
  have x2 : (11 + 7 * (g : Int) + 1).toNat = 12 + 7 * g := by omega
  have x3 : (11 + 7 * (g : Int) + 3).toNat = 14 + 7 * g := by omega
  have x4 : (11 + 7 * (g : Int) + 4).toNat = 15 + 7 * g := by omega
  have x5 : (11 + 7 * (g : Int) + 5).toNat = 16 + 7 * g := by omega
  have x6 : (11 + 7 * (g : Int) + 6).toNat = 17 + 7 * g := by omega
  have ad : f (48 + 7 * g) + V = A 113 (12 + 7 * g) + V := by rw [sg.1]
  have rm : q2 qrem (A 113 (12 + 7 * g) + V) 4 = FA := by
    rw [← hFA, ad]
    exact q_rem (by omega) (by omega) (by omega) (by omega)
  have nx := m_next (A := aup A1 113 S1) (F := F1) (E := E) (c := f1 (47 + 7 * g)) (fa := f1 (48 + 7 * g)) (by rw [aup_s]; omega) (by rw [aup_s]; omega) b6.1 (by rw [aup_s, e0]; exact b6.2) b1.1 b1.2
  rw [aup_s, e0] at nx
  have nb := wnx_b s1.1 s1.2 b6.1 b6.2 b1.1 b1.2
  have c1 : S1 (11 + 7 * g) = f1 (47 + 7 * g) := sg1.2.2.2.2.2 on1
  have r13 : ∀ S, mfr A F (aup A1 113 S) F1 → True := fun _ _ => trivial
  have hb : rn mX11_walks 32 [vr 103, vi (g : Int), vi (11 + 7 * (g : Int)), vn] [] (HP (aup A1 113 S1) F1 E) = cl mX11_walks [vr 103, vi (g : Int)] (HP A F E) := by
    simp (disch := omega) only [eX11_walks, sX11_walks_0, sX11_walks_2, sX11_walks_4, sX11_walks_5, sX11_walks_6, sX11_walks_7, sX11_walks_8, sX11_walks_9, sX11_walks_12, sX11_walks_13, sX11_walks_14, sX11_walks_15, sX11_walks_16, sX11_walks_19, sX11_walks_20, sX11_walks_21, sX11_walks_22, sX11_walks_23, sX11_walks_24, sX11_walks_25, sX11_walks_28, sX11_walks_29, sX11_walks_30, sX11_walks_31, sX11_walks_33, sX11_walks_34, sX11_walks_37, sX11_walks_38, sX11_walks_39, sX11_walks_40, sX11_walks_43, sX11_walks_44, sX11_walks_45, sX11_walks_46, sX11_walks_47, sX11_walks_50, sX11_walks_51, sX11_walks_52, sX11_walks_55, sX11_walks_56, sX11_walks_59, sX11_walks_60, sX11_walks_61, sX11_walks_62, sX11_walks_63, sX11_walks_64, sX11_walks_65, sX11_walks_68, sX11_walks_69, sX11_walks_70, sX11_walks_71, sX11_walks_72, sX11_walks_75, sX11_walks_77, sX11_walks_78, sX11_walks_81, sX11_walks_82, sX11_walks_83, sX11_walks_84, sX11_walks_85, sX11_walks_86, sX11_walks_87, sX11_walks_88, sX11_walks_89, sX11_walks_92, sX11_walks_93, sX11_walks_94, sX11_walks_95, sX11_walks_96, sX11_walks_97, sX11_walks_100, sX11_walks_101, sX11_walks_102, sX11_walks_103, sX11_walks_106, sX11_walks_107, sX11_walks_108, sX11_walks_109, sX11_walks_110, sX11_walks_113, sX11_walks_114, sX11_walks_115, sX11_walks_118, sX11_walks_119, sX11_walks_121, sX11_walks_122, sX11_walks_123, sX11_walks_124, sX11_walks_125, sX11_walks_126, sX11_walks_127, sX11_walks_130, sX11_walks_131, sX11_walks_132, sX11_walks_135, sX11_walks_138, sX11_walks_139, sX11_walks_142, sX11_walks_143, sX11_walks_144, sX11_walks_145, ↓hf103_20, ↓hg113, ↓hs113, ↓hk103, ↓bndi_at r1, i32_of, x1, x2, r3, rm, hS1, Int.reduceEq, ↓reduceIte, ↓if_neg]
  rw [← hb]
  rw [fF] at nx nb
  by_cases z : wnx (f1 0) (f1 (47 + 7 * g)) FA = -1
  · have pl := m_place (F := F1) (E := E) (c := f1 (47 + 7 * g)) (fa := FA) (A := aup A1 113 (fup (fup S1 (14 + 7 * g) 1) (15 + 7 * g) (f1 (7 + FA.toNat)))) (by rw [aup_s, fup_n (by omega), fup_n (by omega)]; omega) (by rw [aup_s, fup_n (by omega), fup_n (by omega)]; omega) b6.1 (by omega) (by omega) (by omega)
    rw [aup_s, fup_n (by omega), fup_n (by omega), e0] at pl
    have dy : S1 (86 + FA).toNat = f1 (7 + FA.toNat) := by
      rw [show (86 + FA).toNat = 86 + FA.toNat by omega]
      exact sd_d hs1 (by omega)
    refine ⟨aup A1 113 (fup (fup (fup (fup S1 (14 + 7 * g) 1) (15 + 7 * g) (f1 (7 + FA.toNat))) (16 + 7 * g) (wpl (f1 0) (f1 (47 + 7 * g)) FA)) (17 + 7 * g) (i32 (f1 (52 + 7 * g) + 1))), F1, ?_, ?_, ?_⟩
    · simp (disch := omega) only [eX11_walks, sX11_walks_0, sX11_walks_2, sX11_walks_4, sX11_walks_5, sX11_walks_6, sX11_walks_7, sX11_walks_8, sX11_walks_9, sX11_walks_12, sX11_walks_13, sX11_walks_14, sX11_walks_15, sX11_walks_16, sX11_walks_19, sX11_walks_20, sX11_walks_21, sX11_walks_22, sX11_walks_23, sX11_walks_24, sX11_walks_25, sX11_walks_28, sX11_walks_29, sX11_walks_30, sX11_walks_31, sX11_walks_32, sX11_walks_33, sX11_walks_34, sX11_walks_37, sX11_walks_38, sX11_walks_39, sX11_walks_40, sX11_walks_43, sX11_walks_44, sX11_walks_45, sX11_walks_46, sX11_walks_47, sX11_walks_50, sX11_walks_51, sX11_walks_52, sX11_walks_55, sX11_walks_56, sX11_walks_59, sX11_walks_60, sX11_walks_61, sX11_walks_62, sX11_walks_63, sX11_walks_64, sX11_walks_65, sX11_walks_68, sX11_walks_69, sX11_walks_70, sX11_walks_71, sX11_walks_72, sX11_walks_75, sX11_walks_77, sX11_walks_78, sX11_walks_81, sX11_walks_82, sX11_walks_83, sX11_walks_84, sX11_walks_85, sX11_walks_86, sX11_walks_87, sX11_walks_88, sX11_walks_89, sX11_walks_92, sX11_walks_93, sX11_walks_94, sX11_walks_95, sX11_walks_96, sX11_walks_97, sX11_walks_100, sX11_walks_101, sX11_walks_102, sX11_walks_103, sX11_walks_106, sX11_walks_107, sX11_walks_108, sX11_walks_109, sX11_walks_110, sX11_walks_113, sX11_walks_114, sX11_walks_115, sX11_walks_118, sX11_walks_119, sX11_walks_121, sX11_walks_122, sX11_walks_123, sX11_walks_124, sX11_walks_125, sX11_walks_126, sX11_walks_127, sX11_walks_130, sX11_walks_131, sX11_walks_132, sX11_walks_135, sX11_walks_138, sX11_walks_139, sX11_walks_142, sX11_walks_143, sX11_walks_144, sX11_walks_145, ↓hf103_20, ↓hg113, ↓hs113, ↓hk103, ↓bndi_at nx, ↓bndi_at pl, i32_of, x1, x2, x3, x4, x5, x6, z, aup_s, aup_aup, fup_n, sF, c1, dy, sg1.2.2.2.2.1, ↓if_neg]
    · refine mfr_113 r2 (fun j hj => ?_)
      rw [fup_n (by omega), fup_n (by omega), fup_n (by omega), fup_n (by omega), ← hS1, fup_n (by omega), r3]
    · rw [aup_s, wgo, fF, if_pos z]
      refine sdr_at (g := g) hs1 (by omega) (fun j hj => by rw [fup_n (by omega), fup_n (by omega), fup_n (by omega), fup_n (by omega)]) (fun j hj => by rw [fup_n (by omega), fup_n (by omega), fup_n (by omega), fup_n (by omega), fup_n (by omega)]) ?_
      simp (disch := omega) only [fup_s, fup_n]
      exact ⟨sg1.1, sg1.2.1, (by trivial), fun _ => ⟨(by trivial), (by trivial)⟩, (by trivial), fun q => absurd q (by omega)⟩
  · have is := m_isStone (A := aup A1 113 S1) (F := F1) (E := E) (c := wnx (f1 0) (f1 (47 + 7 * g)) FA) (by omega) (by omega)
    generalize hNX : wnx (f1 0) (f1 (47 + 7 * g)) FA = NX at *
    rw [aup_s, show (50 + NX).toNat = 50 + NX.toNat by omega, sd_s hs1 (c := NX.toNat) (by omega)] at is
    have st := ho1.2.2.2.2.2.1 NX.toNat (by omega)
    by_cases z2 : f1 (11 + NX.toNat) = 1
    · rw [if_pos z2] at is
      refine ⟨aup A1 113 S1, F1, ?_, ?_, ?_⟩
      · simp (disch := omega) only [eX11_walks, sX11_walks_0, sX11_walks_2, sX11_walks_4, sX11_walks_5, sX11_walks_6, sX11_walks_7, sX11_walks_8, sX11_walks_9, sX11_walks_12, sX11_walks_13, sX11_walks_14, sX11_walks_15, sX11_walks_16, sX11_walks_19, sX11_walks_20, sX11_walks_21, sX11_walks_22, sX11_walks_23, sX11_walks_24, sX11_walks_25, sX11_walks_28, sX11_walks_29, sX11_walks_30, sX11_walks_31, sX11_walks_32, sX11_walks_33, sX11_walks_34, sX11_walks_37, sX11_walks_38, sX11_walks_39, sX11_walks_40, sX11_walks_43, sX11_walks_44, sX11_walks_45, sX11_walks_46, sX11_walks_47, sX11_walks_50, sX11_walks_51, sX11_walks_52, sX11_walks_55, sX11_walks_56, sX11_walks_59, sX11_walks_60, sX11_walks_61, sX11_walks_62, sX11_walks_63, sX11_walks_64, sX11_walks_65, sX11_walks_68, sX11_walks_69, sX11_walks_70, sX11_walks_71, sX11_walks_72, sX11_walks_75, sX11_walks_77, sX11_walks_78, sX11_walks_81, sX11_walks_82, sX11_walks_83, sX11_walks_84, sX11_walks_85, sX11_walks_86, sX11_walks_87, sX11_walks_88, sX11_walks_89, sX11_walks_92, sX11_walks_93, sX11_walks_94, sX11_walks_95, sX11_walks_96, sX11_walks_97, sX11_walks_100, sX11_walks_101, sX11_walks_102, sX11_walks_103, sX11_walks_106, sX11_walks_107, sX11_walks_108, sX11_walks_109, sX11_walks_110, sX11_walks_113, sX11_walks_114, sX11_walks_115, sX11_walks_118, sX11_walks_119, sX11_walks_121, sX11_walks_122, sX11_walks_123, sX11_walks_124, sX11_walks_125, sX11_walks_126, sX11_walks_127, sX11_walks_130, sX11_walks_131, sX11_walks_132, sX11_walks_135, sX11_walks_138, sX11_walks_139, sX11_walks_142, sX11_walks_143, sX11_walks_144, sX11_walks_145, ↓hf103_20, ↓hg113, ↓hs113, ↓hk103, ↓bndi_at nx, ↓bndi_at is, i32_of, x1, x2, aup_s, sF, c1, ↓if_neg, ↓if_pos]
      · refine mfr_113 r2 (fun j hj => ?_)
        rw [← hS1, fup_n (by omega), r3]
      · rw [aup_s, wgo, fF, hNX, if_neg z, if_pos (by omega)]
        exact hs1
    · rw [if_neg z2] at is
      refine ⟨aup A1 113 (fup S1 (11 + 7 * g) NX), F1, ?_, ?_, ?_⟩
      · simp (disch := omega) only [eX11_walks, sX11_walks_0, sX11_walks_2, sX11_walks_4, sX11_walks_5, sX11_walks_6, sX11_walks_7, sX11_walks_8, sX11_walks_9, sX11_walks_12, sX11_walks_13, sX11_walks_14, sX11_walks_15, sX11_walks_16, sX11_walks_19, sX11_walks_20, sX11_walks_21, sX11_walks_22, sX11_walks_23, sX11_walks_24, sX11_walks_25, sX11_walks_28, sX11_walks_29, sX11_walks_30, sX11_walks_31, sX11_walks_32, sX11_walks_33, sX11_walks_34, sX11_walks_37, sX11_walks_38, sX11_walks_39, sX11_walks_40, sX11_walks_43, sX11_walks_44, sX11_walks_45, sX11_walks_46, sX11_walks_47, sX11_walks_50, sX11_walks_51, sX11_walks_52, sX11_walks_55, sX11_walks_56, sX11_walks_59, sX11_walks_60, sX11_walks_61, sX11_walks_62, sX11_walks_63, sX11_walks_64, sX11_walks_65, sX11_walks_68, sX11_walks_69, sX11_walks_70, sX11_walks_71, sX11_walks_72, sX11_walks_75, sX11_walks_77, sX11_walks_78, sX11_walks_81, sX11_walks_82, sX11_walks_83, sX11_walks_84, sX11_walks_85, sX11_walks_86, sX11_walks_87, sX11_walks_88, sX11_walks_89, sX11_walks_92, sX11_walks_93, sX11_walks_94, sX11_walks_95, sX11_walks_96, sX11_walks_97, sX11_walks_100, sX11_walks_101, sX11_walks_102, sX11_walks_103, sX11_walks_106, sX11_walks_107, sX11_walks_108, sX11_walks_109, sX11_walks_110, sX11_walks_113, sX11_walks_114, sX11_walks_115, sX11_walks_118, sX11_walks_119, sX11_walks_121, sX11_walks_122, sX11_walks_123, sX11_walks_124, sX11_walks_125, sX11_walks_126, sX11_walks_127, sX11_walks_130, sX11_walks_131, sX11_walks_132, sX11_walks_135, sX11_walks_138, sX11_walks_139, sX11_walks_142, sX11_walks_143, sX11_walks_144, sX11_walks_145, ↓hf103_20, ↓hg113, ↓hs113, ↓hk103, ↓bndi_at nx, ↓bndi_at is, i32_of, x1, x2, aup_s, aup_aup, sF, c1, ↓if_neg, ↓if_pos]
      · refine mfr_113 r2 (fun j hj => ?_)
        rw [fup_n (by omega), ← hS1, fup_n (by omega), r3]
      · rw [aup_s, wgo, fF, hNX, if_neg z, if_neg (by omega)]
        refine sdr_at (g := g) hs1 (by omega) (fun j hj => by rw [fup_n (by omega)]) (fun j hj => by rw [fup_n (by omega)]) ?_
        simp (disch := omega) only [fup_s, fup_n]
        exact ⟨sg1.1, sg1.2.1, sg1.2.2.1, sg1.2.2.2.1, sg1.2.2.2.2.1, fun _ => (by trivial)⟩
end MP
