/-! the model's step: coming on, biding out, all goers -/
/-- a step by the quarters' function -/
def ps1 (Q : (Int → Int) → Int) (G g : Nat) (f : Nat → Int) : Nat → Int := if f (50 + 7 * g) = 0 then wgo (fup f (48 + 7 * g) ((f (48 + 7 * g) + Q (wwd f G g)) % 4)) g else if f (50 + 7 * g) = 1 then wbo f g else f
def psR (Q : (Int → Int) → Int) (G : Nat) : Nat → Nat → (Nat → Int) → Nat → Int
  | 0, _, f => f
  | n + 1, k, f => psR Q G n (k + 1) (ps1 Q G k f)
def psa (Q : (Int → Int) → Int) (G : Nat) (f : Nat → Int) : Nat → Int := fup (psR Q G G 0 f) 2 (i32 (psR Q G G 0 f 2 + 1))
def psN (Q : (Int → Int) → Int) (G : Nat) : Nat → (Nat → Int) → Nat → Int
  | 0, f => f
  | n + 1, f => psN Q G n (psa Q G f)
section PSK
variable {Q : (Int → Int) → Int} {G g : Nat} {f : Nat → Int}
theorem ps1_ok (hQ : ∀ u, 0 ≤ Q u ∧ Q u ≤ 3) (h : wok f G) (hg : g < G) : wok (ps1 Q G g f) G := by
  unfold ps1
  have := hQ (wwd f G g)
  split
  · rename_i ho
    exact wgo_ok (wturn_ok h hg (by omega)) hg (by rw [fup_n (by omega)]; exact ho)
  · split
    · rename_i ho; exact wbo_ok h hg ho
    · exact h
theorem wok_2 {v : Int} (h : wok f G) : wok (fup f 2 v) G := by
  obtain ⟨h1, h2, h3, h4, h5, h6, h7⟩ := h
  refine ⟨by rw [fup_n (by omega)]; exact h1, h2, by rw [fup_n (by omega)]; exact h3, fun e he => by rw [fup_n (by omega)]; exact h4 e he, fun e he => by rw [fup_n (by omega)]; exact h5 e he, fun c hc => by rw [fup_n (by omega)]; exact h6 c hc, fun k hk => ?_⟩
  have := h7 k hk
  unfold gok at this ⊢
  simp (disch := omega) only [fup_n]
  exact this
theorem psR_ok (hQ : ∀ u, 0 ≤ Q u ∧ Q u ≤ 3) : ∀ (n k : Nat) (f : Nat → Int), k + n ≤ G → wok f G → wok (psR Q G n k f) G
  | 0, _, _, _, h => h
  | n + 1, k, f, hk, h => psR_ok hQ n (k + 1) _ (by omega) (ps1_ok hQ h (by omega))
theorem psa_ok (hQ : ∀ u, 0 ≤ Q u ∧ Q u ≤ 3) (h : wok f G) : wok (psa Q G f) G := wok_2 (psR_ok hQ G 0 f (by omega) h)
theorem psN_ok (hQ : ∀ u, 0 ≤ Q u ∧ Q u ≤ 3) : ∀ (n : Nat) (f : Nat → Int), wok f G → wok (psN Q G n f) G
  | 0, _, h => h
  | n + 1, f, h => psN_ok hQ n _ (psa_ok hQ h)
end PSK
section MP2
variable {A F : Nat → Nat → Int} {E : zE} {f : Nat → Int} {G g : Nat} {Q : (Int → Int) → Int}
theorem m_comesOn (hs : sdr (A 113) f) (ho : wok f G) (hg : g < G) (on : f (50 + 7 * g) = 1) : ∃ S, cl mX11_comesOn [vr 103, vi (g : Int)] (HP A F E) = some (vn, HP (aup A 113 S) F E) ∧ (∀ j, (j < 10 ∨ 86 ≤ j) → S j = A 113 j) ∧ sdr S (wci f g) := by
  have hG5 : G ≤ 5 := ho.2.1
  have gk := ho.2.2.2.2.2.2 g hg
  have s1 : 1 ≤ f 0 ∧ f 0 ≤ 6 := ho.2.2.1
  have sg := sd_g hs (g := g) (by omega)
  unfold gok at gk
  obtain ⟨b1, b2, b3, b4, b5, b6, b7, b8⟩ := gk
  have e0 := sd_0 hs
  have x1 : (11 + 7 * (g : Int)).toNat = 11 + 7 * g := by omega
  have x2 : (11 + 7 * (g : Int) + 1).toNat = 12 + 7 * g := by omega
  have x3 : (11 + 7 * (g : Int) + 3).toNat = 14 + 7 * g := by omega
  have x5 : (11 + 7 * (g : Int) + 5).toNat = 16 + 7 * g := by omega
  have ld : A 113 (46 + f (48 + 7 * g)).toNat = f (3 + (f (48 + 7 * g)).toNat) := by
    rw [show (46 + f (48 + 7 * g)).toNat = 46 + (f (48 + 7 * g)).toNat by omega]
    exact sd_l hs (by omega)
  have lb := ho.2.2.2.1 (f (48 + 7 * g)).toNat (by omega)
  have pl := (sg.2.2.2.1 on).2
  generalize hED : f (3 + (f (48 + 7 * g)).toNat) = ED at *
  have ca := m_cellAt (A := A) (F := F) (E := E) (ed := ED) (p := f (53 + 7 * g)) (by omega) (by omega) b5.1 (by omega) lb.1 lb.2
  rw [e0] at ca
  have cb := wca_b s1.1 s1.2 b5.1 b5.2 lb.1 lb.2
  have is := m_isStone (A := A) (F := F) (E := E) (c := wca (f 0) ED (f (53 + 7 * g))) (by omega) (by omega)
  unfold wci
  rw [hED]
  generalize hNX : wca (f 0) ED (f (53 + 7 * g)) = NX at *
  rw [show (50 + NX).toNat = 50 + NX.toNat by omega, sd_s hs (c := NX.toNat) (by omega)] at is
  have st := ho.2.2.2.2.2.1 NX.toNat (by omega)
  have rm : q2 qrem (ED + 2) 4 = (ED + 2) % 4 := q_rem (by omega) (by omega) (by omega) (by omega)
  by_cases z2 : f (11 + NX.toNat) = 1
  · rw [if_pos z2] at is
    refine ⟨A 113, ?_, fun _ _ => rfl, ?_⟩
    · rw [aup_id]
      simp (disch := omega) only [eX11_comesOn, sX11_comesOn_0, sX11_comesOn_2, sX11_comesOn_4, sX11_comesOn_5, sX11_comesOn_6, sX11_comesOn_7, sX11_comesOn_8, sX11_comesOn_9, sX11_comesOn_12, sX11_comesOn_14, sX11_comesOn_15, sX11_comesOn_18, sX11_comesOn_19, sX11_comesOn_20, sX11_comesOn_21, sX11_comesOn_22, sX11_comesOn_23, sX11_comesOn_24, sX11_comesOn_25, sX11_comesOn_26, sX11_comesOn_27, sX11_comesOn_28, sX11_comesOn_31, sX11_comesOn_32, sX11_comesOn_33, sX11_comesOn_34, sX11_comesOn_35, sX11_comesOn_38, sX11_comesOn_40, sX11_comesOn_41, sX11_comesOn_43, sX11_comesOn_46, sX11_comesOn_49, sX11_comesOn_50, sX11_comesOn_51, sX11_comesOn_54, sX11_comesOn_55, sX11_comesOn_57, sX11_comesOn_58, sX11_comesOn_59, sX11_comesOn_62, sX11_comesOn_63, sX11_comesOn_64, sX11_comesOn_65, sX11_comesOn_66, sX11_comesOn_67, sX11_comesOn_68, sX11_comesOn_69, sX11_comesOn_70, sX11_comesOn_71, sX11_comesOn_72, sX11_comesOn_75, sX11_comesOn_76, sX11_comesOn_77, sX11_comesOn_78, sX11_comesOn_79, sX11_comesOn_80, ↓hf103_20, ↓hg113, ↓hs113, ↓hk103, i32_of, x1, x2, x5, sg.1, ld, pl, ↓bndi_at ca, ↓bndi_at is, ↓if_pos, ↓if_neg]
    · rw [if_pos (by omega)]; exact hs
  · rw [if_neg z2] at is
    refine ⟨fup (fup (fup (A 113) (11 + 7 * g) NX) (12 + 7 * g) ((ED + 2) % 4)) (14 + 7 * g) 0, ?_, ?_, ?_⟩
    · simp (disch := omega) only [eX11_comesOn, sX11_comesOn_0, sX11_comesOn_2, sX11_comesOn_4, sX11_comesOn_5, sX11_comesOn_6, sX11_comesOn_7, sX11_comesOn_8, sX11_comesOn_9, sX11_comesOn_12, sX11_comesOn_14, sX11_comesOn_15, sX11_comesOn_18, sX11_comesOn_19, sX11_comesOn_20, sX11_comesOn_21, sX11_comesOn_22, sX11_comesOn_23, sX11_comesOn_24, sX11_comesOn_25, sX11_comesOn_26, sX11_comesOn_27, sX11_comesOn_28, sX11_comesOn_31, sX11_comesOn_32, sX11_comesOn_33, sX11_comesOn_34, sX11_comesOn_35, sX11_comesOn_38, sX11_comesOn_40, sX11_comesOn_41, sX11_comesOn_43, sX11_comesOn_46, sX11_comesOn_49, sX11_comesOn_50, sX11_comesOn_51, sX11_comesOn_54, sX11_comesOn_55, sX11_comesOn_57, sX11_comesOn_58, sX11_comesOn_59, sX11_comesOn_62, sX11_comesOn_63, sX11_comesOn_64, sX11_comesOn_65, sX11_comesOn_66, sX11_comesOn_67, sX11_comesOn_68, sX11_comesOn_69, sX11_comesOn_70, sX11_comesOn_71, sX11_comesOn_72, sX11_comesOn_75, sX11_comesOn_76, sX11_comesOn_77, sX11_comesOn_78, sX11_comesOn_79, sX11_comesOn_80, ↓hf103_20, ↓hg113, ↓hs113, ↓hk103, i32_of, x1, x2, x3, x5, sg.1, ld, pl, ↓bndi_at ca, ↓bndi_at is, ↓if_pos, ↓if_neg, aup_s, aup_aup, rm, Int.reduceEq, if_false]
    · intro j hj; rw [fup_n (by omega), fup_n (by omega), fup_n (by omega)]
    · rw [if_neg (by omega)]
      refine sdr_at (g := g) hs (by omega) (fun j hj => by rw [fup_n (by omega), fup_n (by omega), fup_n (by omega)]) (fun j hj => by rw [fup_n (by omega), fup_n (by omega), fup_n (by omega)]) ?_
      simp (disch := omega) only [fup_s, fup_n]
      exact ⟨(by trivial), sg.2.1, (by trivial), fun q => absurd q (by omega), sg.2.2.2.2.1, fun _ => (by trivial)⟩
theorem m_goesOut (hs : sdr (A 113) f) (ho : wok f G) (hg : g < G) (on : f (50 + 7 * g) = 1) : ∃ S, cl mX11_goesOut [vr 103, vi (g : Int)] (HP A F E) = some (vn, HP (aup A 113 S) F E) ∧ (∀ j, (j < 10 ∨ 86 ≤ j) → S j = A 113 j) ∧ sdr S (wbo f g) := by
  have hG5 : G ≤ 5 := ho.2.1
  have gk := ho.2.2.2.2.2.2 g hg
  have sg := sd_g hs (g := g) (by omega)
  unfold gok at gk
  have gk' := gk
  obtain ⟨b1, b2, b3, b4, b5, b6, b7, b8⟩ := gk
  have x1 : (11 + 7 * (g : Int)).toNat = 11 + 7 * g := by omega
  have x2 : (11 + 7 * (g : Int) + 2).toNat = 13 + 7 * g := by omega
  have x3 : (11 + 7 * (g : Int) + 3).toNat = 14 + 7 * g := by omega
  have x4 : (11 + 7 * (g : Int) + 4).toNat = 15 + 7 * g := by omega
  have lf := (sg.2.2.2.1 on).1
  unfold wbo
  by_cases z : f (49 + 7 * g) = 0
  · rw [if_pos z]
    refine ⟨fup (A 113) (14 + 7 * g) 2, ?_, fun j hj => by rw [fup_n (by omega)], ?_⟩
    · simp (disch := omega) only [eX11_goesOut, sX11_goesOut_0, sX11_goesOut_2, sX11_goesOut_4, sX11_goesOut_5, sX11_goesOut_6, sX11_goesOut_7, sX11_goesOut_8, sX11_goesOut_9, sX11_goesOut_12, sX11_goesOut_13, sX11_goesOut_14, sX11_goesOut_15, sX11_goesOut_16, sX11_goesOut_19, sX11_goesOut_20, sX11_goesOut_23, sX11_goesOut_24, sX11_goesOut_25, sX11_goesOut_26, sX11_goesOut_27, sX11_goesOut_28, sX11_goesOut_29, sX11_goesOut_30, sX11_goesOut_33, sX11_goesOut_34, sX11_goesOut_35, sX11_goesOut_36, sX11_goesOut_37, sX11_goesOut_38, sX11_goesOut_39, sX11_goesOut_40, sX11_goesOut_41, sX11_goesOut_42, sX11_goesOut_45, sX11_goesOut_46, sX11_goesOut_47, sX11_goesOut_48, sX11_goesOut_49, sX11_goesOut_52, sX11_goesOut_53, sX11_goesOut_56, sX11_goesOut_57, sX11_goesOut_58, sX11_goesOut_59, sX11_goesOut_60, sX11_goesOut_61, sX11_goesOut_62, sX11_goesOut_63, sX11_goesOut_64, sX11_goesOut_67, sX11_goesOut_68, sX11_goesOut_69, sX11_goesOut_72, ↓hf103_20, ↓hg113, ↓hs113, ↓hk103, i32_of, x2, x3, sg.2.1, z, ↓if_neg]
    · refine sdr_at (g := g) hs (by omega) (fun j hj => by rw [fup_n (by omega)]) (fun j hj => by rw [fup_n (by omega), fup_n (by omega)]) ?_
      simp (disch := omega) only [fup_s, fup_n]
      exact ⟨sg.1, sg.2.1, (by trivial), fun q => absurd q (by omega), sg.2.2.2.2.1, fun q => absurd q (by omega)⟩
  · rw [if_neg z]
    have hs1 : sdr (fup (A 113) (13 + 7 * g) (f (49 + 7 * g) - 1)) (fup f (49 + 7 * g) (f (49 + 7 * g) - 1)) := by
      refine sdr_at (g := g) hs (by omega) (fun j hj => by rw [fup_n (by omega)]) (fun j hj => by rw [fup_n (by omega)]) ?_
      simp (disch := omega) only [fup_s, fup_n]
      exact ⟨sg.1, (by trivial), sg.2.2⟩
    by_cases z1 : 0 < f (51 + 7 * g)
    · rw [if_pos z1]
      refine ⟨fup (fup (A 113) (13 + 7 * g) (f (49 + 7 * g) - 1)) (15 + 7 * g) (f (51 + 7 * g) - 1), ?_, fun j hj => by rw [fup_n (by omega), fup_n (by omega)], ?_⟩
      · simp (disch := omega) only [eX11_goesOut, sX11_goesOut_0, sX11_goesOut_2, sX11_goesOut_4, sX11_goesOut_5, sX11_goesOut_6, sX11_goesOut_7, sX11_goesOut_8, sX11_goesOut_9, sX11_goesOut_12, sX11_goesOut_13, sX11_goesOut_14, sX11_goesOut_15, sX11_goesOut_16, sX11_goesOut_19, sX11_goesOut_20, sX11_goesOut_23, sX11_goesOut_24, sX11_goesOut_25, sX11_goesOut_26, sX11_goesOut_27, sX11_goesOut_28, sX11_goesOut_29, sX11_goesOut_30, sX11_goesOut_33, sX11_goesOut_34, sX11_goesOut_35, sX11_goesOut_36, sX11_goesOut_37, sX11_goesOut_38, sX11_goesOut_39, sX11_goesOut_40, sX11_goesOut_41, sX11_goesOut_42, sX11_goesOut_45, sX11_goesOut_46, sX11_goesOut_47, sX11_goesOut_48, sX11_goesOut_49, sX11_goesOut_52, sX11_goesOut_53, sX11_goesOut_56, sX11_goesOut_57, sX11_goesOut_58, sX11_goesOut_59, sX11_goesOut_60, sX11_goesOut_61, sX11_goesOut_62, sX11_goesOut_63, sX11_goesOut_64, sX11_goesOut_67, sX11_goesOut_68, sX11_goesOut_69, sX11_goesOut_72, ↓hf103_20, ↓hg113, ↓hs113, ↓hk103, i32_of, x2, x3, x4, sg.2.1, lf, ↓if_pos, ↓if_neg, aup_s, aup_aup, fup_n]
      · refine sdr_at (g := g) hs (by omega) (fun j hj => by rw [fup_n (by omega), fup_n (by omega)]) (fun j hj => by rw [fup_n (by omega), fup_n (by omega)]) ?_
        simp (disch := omega) only [fup_s, fup_n]
        exact ⟨sg.1, (by trivial), sg.2.2.1, fun _ => ⟨(by trivial), (sg.2.2.2.1 on).2⟩, sg.2.2.2.2.1, sg.2.2.2.2.2⟩
    · rw [if_neg z1]
      have ho1 : wok (fup f (49 + 7 * g) (f (49 + 7 * g) - 1)) G := by
        refine wok_at ho hg (fun j hj => fup_n (by omega)) ?_
        unfold gok
        simp (disch := omega) only [fup_s, fup_n]
        exact ⟨b1, by omega, b3, b4, b5, b6, b7, b8⟩
      obtain ⟨S, r1, r2, r3⟩ := m_comesOn (A := aup A 113 (fup (A 113) (13 + 7 * g) (f (49 + 7 * g) - 1))) (F := F) (E := E) (by rw [aup_s]; exact hs1) ho1 hg (by rw [fup_n (by omega)]; exact on)
      rw [aup_aup] at r1
      refine ⟨S, ?_, fun j hj => ?_, r3⟩
      · simp (disch := omega) only [eX11_goesOut, sX11_goesOut_0, sX11_goesOut_2, sX11_goesOut_4, sX11_goesOut_5, sX11_goesOut_6, sX11_goesOut_7, sX11_goesOut_8, sX11_goesOut_9, sX11_goesOut_12, sX11_goesOut_13, sX11_goesOut_14, sX11_goesOut_15, sX11_goesOut_16, sX11_goesOut_19, sX11_goesOut_20, sX11_goesOut_23, sX11_goesOut_24, sX11_goesOut_25, sX11_goesOut_26, sX11_goesOut_27, sX11_goesOut_28, sX11_goesOut_29, sX11_goesOut_30, sX11_goesOut_33, sX11_goesOut_34, sX11_goesOut_35, sX11_goesOut_36, sX11_goesOut_37, sX11_goesOut_38, sX11_goesOut_39, sX11_goesOut_40, sX11_goesOut_41, sX11_goesOut_42, sX11_goesOut_45, sX11_goesOut_46, sX11_goesOut_47, sX11_goesOut_48, sX11_goesOut_49, sX11_goesOut_52, sX11_goesOut_53, sX11_goesOut_56, sX11_goesOut_57, sX11_goesOut_58, sX11_goesOut_59, sX11_goesOut_60, sX11_goesOut_61, sX11_goesOut_62, sX11_goesOut_63, sX11_goesOut_64, sX11_goesOut_67, sX11_goesOut_68, sX11_goesOut_69, sX11_goesOut_72, ↓hf103_20, ↓hg113, ↓hs113, ↓hk103, i32_of, x2, x3, x4, sg.2.1, lf, ↓if_pos, ↓if_neg, aup_s, aup_aup, fup_n, ↓bndv_at r1]
      · rw [r2 j hj, aup_s, fup_n (by omega)]
theorem m_pass_l : ∀ (n k : Nat) (A F : Nat → Nat → Int) (f : Nat → Int), k + n = G → sdr (A 113) f → wok f G → mQ A F Q → ∃ A' F', rn mX11_passes 2 [vr 103, vi (k : Int)] [] (HP A F E) = rn mX11_passes 48 [vr 103, vi (G : Int)] [] (HP A' F' E) ∧ mfr A F A' F' ∧ sdr (A' 113) (psR Q G n k f) := by
  intro n
  induction n with
  | zero =>
    intro k A F f hk hs ho hq
    have : k = G := by omega
    subst this
    have hG : A 113 2 = (k : Int) := by rw [sd_1 hs]; exact ho.1
    refine ⟨A, F, ?_, mfr_r, hs⟩
    rw [sX11_passes_2]
    simp (disch := omega) only [eX11_passes, sX11_passes_0, sX11_passes_1, sX11_passes_3, sX11_passes_4, sX11_passes_7, sX11_passes_8, sX11_passes_9, sX11_passes_12, sX11_passes_13, sX11_passes_14, sX11_passes_17, sX11_passes_20, sX11_passes_21, sX11_passes_22, sX11_passes_25, sX11_passes_28, sX11_passes_29, sX11_passes_30, sX11_passes_33, sX11_passes_34, sX11_passes_37, sX11_passes_38, sX11_passes_39, sX11_passes_42, sX11_passes_45, sX11_passes_49, sX11_passes_52, sX11_passes_54, sX11_passes_55, sX11_passes_56, sX11_passes_57, sX11_passes_58, sX11_passes_59, ↓hf103_20, ↓hg113, ↓if_pos, ↓if_neg, ↓reduceIte, true_or, or_true, not_true_eq_false, not_false_eq_true, Int.toNat_natCast, i32_of, aup_s, aup_n, fup_s, fup_n, aup_aup, fup_fup, Nat.reduceAdd, Nat.reduceMul, Int.reduceToNat, Int.reduceAdd, Int.reduceSub, Int.reduceMul, Int.reduceNeg, hG]
  | succ n ih =>
    intro k A F f hk hs ho hq
    have hG : A 113 2 = (G : Int) := by rw [sd_1 hs]; exact ho.1
    have hG5 : G ≤ 5 := ho.2.1
    have sg := sd_g hs (g := k) (by omega)
    have on := m_isOn (A := A) (F := F) (E := E) (g := k) (by omega)
    have st := m_statusOf (A := A) (F := F) (E := E) (g := k) (by omega)
    rw [sg.2.2.1] at on st
    have ho1 := ps1_ok hq.2.1 ho (show k < G by omega)
    by_cases z : f (50 + 7 * k) = 0
    · obtain ⟨A1, F1, r1, r2, r3⟩ := m_walks (E := E) hs ho hq (by omega) z
      have e : ps1 Q G k f = wgo (fup f (48 + 7 * k) ((f (48 + 7 * k) + Q (wwd f G k)) % 4)) k := if_pos z
      rw [← e] at r3
      obtain ⟨A2, F2, t1, t2, t3⟩ := ih (k + 1) A1 F1 _ (by omega) r3 ho1 (mQ_f hq r2)
      refine ⟨A2, F2, ?_, mfr_t r2 t2, t3⟩
      rw [← t1, sX11_passes_2]
      simp (disch := omega) only [eX11_passes, sX11_passes_0, sX11_passes_1, sX11_passes_3, sX11_passes_4, sX11_passes_7, sX11_passes_8, sX11_passes_9, sX11_passes_12, sX11_passes_13, sX11_passes_14, sX11_passes_17, sX11_passes_20, sX11_passes_21, sX11_passes_22, sX11_passes_25, sX11_passes_28, sX11_passes_29, sX11_passes_30, sX11_passes_33, sX11_passes_34, sX11_passes_37, sX11_passes_38, sX11_passes_39, sX11_passes_42, sX11_passes_45, sX11_passes_49, sX11_passes_52, sX11_passes_54, sX11_passes_55, sX11_passes_56, sX11_passes_57, sX11_passes_58, sX11_passes_59, ↓hf103_20, ↓hg113, ↓hk103, ↓bndi_at on, ↓bndv_at r1, z, ↓if_pos, ↓if_neg, Int.reduceToNat, hG, i32_s]
    · by_cases z1 : f (50 + 7 * k) = 1
      · obtain ⟨S, r1, r2, r3⟩ := m_goesOut (F := F) (E := E) hs ho (show k < G by omega) z1
        have e : ps1 Q G k f = wbo f k := by unfold ps1; rw [if_neg z, if_pos z1]
        rw [← e] at r3
        have r4 : mfr A F (aup A 113 S) F := mfr_113 mfr_r r2
        obtain ⟨A2, F2, t1, t2, t3⟩ := ih (k + 1) (aup A 113 S) F _ (by omega) (by rw [aup_s]; exact r3) ho1 (mQ_f hq r4)
        refine ⟨A2, F2, ?_, mfr_t r4 t2, t3⟩
        rw [← t1, sX11_passes_2]
        simp (disch := omega) only [eX11_passes, sX11_passes_0, sX11_passes_1, sX11_passes_3, sX11_passes_4, sX11_passes_7, sX11_passes_8, sX11_passes_9, sX11_passes_12, sX11_passes_13, sX11_passes_14, sX11_passes_17, sX11_passes_20, sX11_passes_21, sX11_passes_22, sX11_passes_25, sX11_passes_28, sX11_passes_29, sX11_passes_30, sX11_passes_33, sX11_passes_34, sX11_passes_37, sX11_passes_38, sX11_passes_39, sX11_passes_42, sX11_passes_45, sX11_passes_49, sX11_passes_52, sX11_passes_54, sX11_passes_55, sX11_passes_56, sX11_passes_57, sX11_passes_58, sX11_passes_59, ↓hf103_20, ↓hg113, ↓hk103, ↓bndi_at on, ↓bndi_at st, ↓bndv_at r1, z1, ↓if_pos, ↓if_neg, Int.reduceToNat, hG, i32_s, Int.reduceEq, if_false]
      · have e : ps1 Q G k f = f := by unfold ps1; rw [if_neg z, if_neg z1]
        obtain ⟨A2, F2, t1, t2, t3⟩ := ih (k + 1) A F f (by omega) hs ho hq
        refine ⟨A2, F2, ?_, t2, by rw [psR, e]; exact t3⟩
        rw [← t1, sX11_passes_2]
        simp (disch := omega) only [eX11_passes, sX11_passes_0, sX11_passes_1, sX11_passes_3, sX11_passes_4, sX11_passes_7, sX11_passes_8, sX11_passes_9, sX11_passes_12, sX11_passes_13, sX11_passes_14, sX11_passes_17, sX11_passes_20, sX11_passes_21, sX11_passes_22, sX11_passes_25, sX11_passes_28, sX11_passes_29, sX11_passes_30, sX11_passes_33, sX11_passes_34, sX11_passes_37, sX11_passes_38, sX11_passes_39, sX11_passes_42, sX11_passes_45, sX11_passes_49, sX11_passes_52, sX11_passes_54, sX11_passes_55, sX11_passes_56, sX11_passes_57, sX11_passes_58, sX11_passes_59, ↓hf103_20, ↓hg113, ↓hk103, ↓bndi_at on, ↓bndi_at st, z, z1, ↓if_pos, ↓if_neg, Int.reduceToNat, hG, i32_s, if_false]
theorem sdr_2 {s f : Nat → Int} {v : Int} (h : sdr s f) : sdr (fup s 10 v) (fup f 2 v) := by
  refine ⟨by rw [fup_n (by omega), fup_n (by omega)]; exact h.1, by rw [fup_n (by omega), fup_n (by omega)]; exact h.2.1, fun e he => by rw [fup_n (by omega), fup_n (by omega)]; exact h.2.2.1 e he, ?_, ?_, ?_, ?_⟩
  · show fup s 10 v (10 + 0) = _
    rw [fup_s, fup_s]
  · intro e he
    show fup s 10 v (10 + (36 + e)) = _
    rw [fup_n (by omega), fup_n (by omega)]; exact h.2.2.2.2.1 e he
  · intro c hc
    show fup s 10 v (10 + (40 + c)) = _
    rw [fup_n (by omega), fup_n (by omega)]; exact h.2.2.2.2.2.1 c hc
  · intro i hi
    have := h.2.2.2.2.2.2 i hi
    unfold sdg at this ⊢
    simp (disch := omega) only [fup_n]
    exact this
theorem m_passes (hs : sdr (A 113) f) (ho : wok f G) (hq : mQ A F Q) : ∃ A' F', cl mX11_passes [vr 103] (HP A F E) = some (vn, HP A' F' E) ∧ mfr A F A' F' ∧ sdr (A' 113) (psa Q G f) := by
  obtain ⟨A1, F1, r1, r2, r3⟩ := m_pass_l (E := E) G 0 A F f (by omega) hs ho hq
  have r1' : rn mX11_passes 2 [vr 103, vi 0] [] (HP A F E) = rn mX11_passes 48 [vr 103, vi (G : Int)] [] (HP A1 F1 E) := r1
  refine ⟨aup A1 113 (fup (A1 113) 10 (i32 (A1 113 10 + 1))), F1, ?_, mfr_113 r2 (fun j hj => fup_n (by omega)), ?_⟩
  · simp (disch := omega) only [eX11_passes, sX11_passes_0, sX11_passes_1, sX11_passes_3, sX11_passes_4, sX11_passes_7, sX11_passes_8, sX11_passes_9, sX11_passes_12, sX11_passes_13, sX11_passes_14, sX11_passes_17, sX11_passes_20, sX11_passes_21, sX11_passes_22, sX11_passes_25, sX11_passes_28, sX11_passes_29, sX11_passes_30, sX11_passes_33, sX11_passes_34, sX11_passes_37, sX11_passes_38, sX11_passes_39, sX11_passes_42, sX11_passes_45, sX11_passes_49, sX11_passes_52, sX11_passes_54, sX11_passes_55, sX11_passes_56, sX11_passes_57, sX11_passes_58, sX11_passes_59]
    rw [r1']
    simp (disch := omega) only [eX11_passes, sX11_passes_0, sX11_passes_1, sX11_passes_3, sX11_passes_4, sX11_passes_7, sX11_passes_8, sX11_passes_9, sX11_passes_12, sX11_passes_13, sX11_passes_14, sX11_passes_17, sX11_passes_20, sX11_passes_21, sX11_passes_22, sX11_passes_25, sX11_passes_28, sX11_passes_29, sX11_passes_30, sX11_passes_33, sX11_passes_34, sX11_passes_37, sX11_passes_38, sX11_passes_39, sX11_passes_42, sX11_passes_45, sX11_passes_48, sX11_passes_49, sX11_passes_52, sX11_passes_54, sX11_passes_55, sX11_passes_56, sX11_passes_57, sX11_passes_58, sX11_passes_59, ↓hf103_20, ↓hg113, ↓hs113, Int.reduceToNat]
  · rw [aup_s, sd_2 r3]
    exact sdr_2 r3
theorem m_passN_l {m : Nat} (hm : m < 100000) : ∀ (n k : Nat) (A F : Nat → Nat → Int) (f : Nat → Int), k + n = m → sdr (A 113) f → wok f G → mQ A F Q → ∃ A' F', rn mX11_passesAll 2 [vr 103, vi (m : Int), vi (k : Int)] [] (HP A F E) = some (vn, HP A' F' E) ∧ mfr A F A' F' ∧ sdr (A' 113) (psN Q G n f) := by
  intro n
  induction n with
  | zero =>
    intro k A F f hk hs ho hq
    have : k = m := by omega
    subst this
    refine ⟨A, F, ?_, mfr_r, hs⟩
    rw [sX11_passesAll_2]
    simp (disch := omega) only [eX11_passesAll, sX11_passesAll_0, sX11_passesAll_1, sX11_passesAll_3, sX11_passesAll_4, sX11_passesAll_7, sX11_passesAll_8, sX11_passesAll_11, sX11_passesAll_14, sX11_passesAll_17, ↓if_pos]
  | succ n ih =>
    intro k A F f hk hs ho hq
    obtain ⟨A1, F1, r1, r2, r3⟩ := m_passes (E := E) hs ho hq
    obtain ⟨A2, F2, t1, t2, t3⟩ := ih (k + 1) A1 F1 _ (by omega) r3 (psa_ok hq.2.1 ho) (mQ_f hq r2)
    refine ⟨A2, F2, ?_, mfr_t r2 t2, t3⟩
    rw [← t1, sX11_passesAll_2]
    simp (disch := omega) only [eX11_passesAll, sX11_passesAll_0, sX11_passesAll_1, sX11_passesAll_3, sX11_passesAll_4, sX11_passesAll_7, sX11_passesAll_8, sX11_passesAll_11, sX11_passesAll_14, sX11_passesAll_17, ↓hk103, ↓bndv_at r1, ↓if_neg, i32_s]
theorem m_passN {m : Nat} (hm : m < 100000) (hs : sdr (A 113) f) (ho : wok f G) (hq : mQ A F Q) : ∃ A' F', cl mX11_passesAll [vr 103, vi (m : Int)] (HP A F E) = some (vn, HP A' F' E) ∧ mfr A F A' F' ∧ sdr (A' 113) (psN Q G m f) := by
  obtain ⟨A1, F1, r1, r2, r3⟩ := m_passN_l (E := E) hm m 0 A F f (by omega) hs ho hq
  refine ⟨A1, F1, ?_, r2, r3⟩
  rw [← r1]
  simp only [eX11_passesAll, sX11_passesAll_0, sX11_passesAll_1, sX11_passesAll_3, sX11_passesAll_4, sX11_passesAll_7, sX11_passesAll_8, sX11_passesAll_11, sX11_passesAll_14, sX11_passesAll_17]
  rfl
end MP2
