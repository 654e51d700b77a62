/-! a rule's text read by both -/
section RR
variable {A F : Nat → Nat → Int} {E : zE} {b : Nat → Int} {L : Int} {t : Nat} {σ ρ : zS}
theorem m_readsAll_r (ht : t < 6) (tm : TM A F b L) (h11 : F 103 11 = (t : Int)) (h8 : A 108 t = 0) (hx : σ.1 = 0) (hO : σ.2.2.1 = []) (hW : σ.2.2.2.1 = []) (ck : cok L σ) (v4 : σ.2.2.2.2 4 = 0) (v5 : σ.2.2.2.2 5 = 0) (v6 : σ.2.2.2.2 6 = 0) : ∃ A' F', cl mX11_readsAll [vr 103] (HP A F E) = some (vi (if F' 103 9 = 0 then 1 else 0), HP A' (fF F' 1 0) E) ∧ rfR A F A' F' t ∧ (flt b L σ F' ∨ (F' 103 9 = 0 ∧ rdone b L σ A' t)) := by
  have L4 := tm.2.1
  generalize hF0 : fF (fF (fF (fF F 14 0) 8 0) 9 0) 12 0 = F0
  have k0 : ∀ k, k ≠ 8 → k ≠ 9 → k ≠ 12 → k ≠ 14 → F0 103 k = F 103 k := fun k a c d e => by rw [← hF0, fF_n d, fF_n c, fF_n a, fF_n e]
  have tm0 : TM (aup A 106 (fup (A 106) t 0)) F0 b L := ⟨by rw [k0 1 (by omega) (by omega) (by omega) (by omega)]; exact tm.1, tm.2.1, tm.2.2.1, fun j hj => by rw [aup_n (by omega)]; exact tm.2.2.2 j hj⟩
  have f8 : F0 103 8 = 0 := by rw [← hF0, fF_n (by omega), fF_n (by omega), fF_s]
  have rt0 : RT (aup A 106 (fup (A 106) t 0)) t [] := ⟨by rw [aup_s, fup_s]; rfl, fun i hi => by simp [Mfl] at hi, trivial, by rw [aup_n (by omega)]; exact h8, fun c hc => by cases hc⟩
  obtain ⟨z, H, A', F', z', u1, u2, u3, u4⟩ := m_rru_l (E := E) (b := b) (L := L) ht 13 [] σ (aup A 106 (fup (A 106) t 0)) F0 rfl rt0 tm0 (by rw [← hF0, fF_n (by omega), fF_s]) (by rw [k0 11 (by omega) (by omega) (by omega) (by omega)]; exact h11) (by rw [← hF0, fF_s, v6]) (by rw [← hF0, fF_n (by omega), fF_n (by omega), fF_n (by omega), fF_s]; rfl) (plc_i (by rw [f8, hx]) (by rw [hx]; exact ⟨by omega, L4.1⟩)) hO hW ck v4 v5
  have pt : fF (fF (fF (fF F 14 0) 8 0) 9 0) 12 0 = aup F 103 (fup (fup (fup (fup (F 103) 14 0) 8 0) 9 0) 12 0) := by
    unfold fF; rw [aup_aup, aup_aup, aup_aup, aup_s, aup_s, aup_s]
  rw [hF0] at pt
  have fr0 : rfR A F (aup A 106 (fup (A 106) t 0)) F0 t := by
    refine ⟨fun j _ c _ _ _ => aup_n c, fun j a => by rw [← hF0, fF_o a, fF_o a, fF_o a, fF_o a], fun k a c d e f g l => k0 k a c e g, fun j _ => by rw [aup_n (by omega)], fun j a => by rw [aup_s, fup_n a], fun j _ => by rw [aup_n (by omega)], fun j _ => by rw [aup_n (by omega)]⟩
  refine ⟨A', F', ?_, rfR_t fr0 u3, u4⟩
  simp (disch := omega) only [eX11_readsAll, sX11_readsAll_0, sX11_readsAll_1, sX11_readsAll_4, sX11_readsAll_5, sX11_readsAll_8, sX11_readsAll_9, sX11_readsAll_10, sX11_readsAll_11, sX11_readsAll_12, sX11_readsAll_15, sX11_readsAll_16, sX11_readsAll_17, sX11_readsAll_20, sX11_readsAll_21, sX11_readsAll_22, sX11_readsAll_25, sX11_readsAll_26, sX11_readsAll_27, sX11_readsAll_30, sX11_readsAll_31, sX11_readsAll_34, sX11_readsAll_36, sX11_readsAll_39, sX11_readsAll_40, sX11_readsAll_43, sX11_readsAll_45, sX11_readsAll_48, sX11_readsAll_49, sX11_readsAll_50, sX11_readsAll_53, sX11_readsAll_54, sX11_readsAll_55, sX11_readsAll_58, sX11_readsAll_59, sX11_readsAll_62, sX11_readsAll_63, sX11_readsAll_66, sX11_readsAll_67, sX11_readsAll_70, sX11_readsAll_71, sX11_readsAll_74, sX11_readsAll_75, sX11_readsAll_78, sX11_readsAll_79, sX11_readsAll_80, sX11_readsAll_81, sX11_readsAll_84, sX11_readsAll_87, sX11_readsAll_88, sX11_readsAll_89, sX11_readsAll_90, sX11_readsAll_93, sX11_readsAll_94, sX11_readsAll_97, sX11_readsAll_100, sX11_readsAll_101, sX11_readsAll_104, sX11_readsAll_105, ↓hk103, ↓hf103_4, ↓hf103_11, ↓hs106, ↓hp103_14, ↓hp103_8, ↓hp103_9, ↓hp103_12, h11, Int.toNat_natCast, aup_s, aup_aup]
  rw [← pt]
  simp (disch := omega) only [↓bndi_at u1]
  rw [u2]
  by_cases y : F' 103 9 = 0
  · rw [if_pos y]
    have e9 : fF F' 1 0 103 9 = 0 := by rw [fF_n (by omega)]; exact y
    have q : ∀ L st, rn mX11_readsAll 93 L st (HP A' (aup F' 103 (fup (F' 103) 1 0)) E) = rn mX11_readsAll 93 L st (HP A' (fF F' 1 0) E) := fun _ _ => rfl
    simp (disch := omega) only [eX11_readsAll, sX11_readsAll_0, sX11_readsAll_1, sX11_readsAll_4, sX11_readsAll_5, sX11_readsAll_8, sX11_readsAll_9, sX11_readsAll_10, sX11_readsAll_11, sX11_readsAll_12, sX11_readsAll_15, sX11_readsAll_16, sX11_readsAll_17, sX11_readsAll_20, sX11_readsAll_21, sX11_readsAll_22, sX11_readsAll_25, sX11_readsAll_26, sX11_readsAll_27, sX11_readsAll_30, sX11_readsAll_31, sX11_readsAll_34, sX11_readsAll_36, sX11_readsAll_39, sX11_readsAll_40, sX11_readsAll_43, sX11_readsAll_45, sX11_readsAll_48, sX11_readsAll_49, sX11_readsAll_50, sX11_readsAll_53, sX11_readsAll_54, sX11_readsAll_55, sX11_readsAll_58, sX11_readsAll_59, sX11_readsAll_62, sX11_readsAll_63, sX11_readsAll_66, sX11_readsAll_67, sX11_readsAll_70, sX11_readsAll_71, sX11_readsAll_74, sX11_readsAll_75, sX11_readsAll_78, sX11_readsAll_79, sX11_readsAll_80, sX11_readsAll_81, sX11_readsAll_84, sX11_readsAll_87, sX11_readsAll_88, sX11_readsAll_89, sX11_readsAll_90, sX11_readsAll_94, sX11_readsAll_97, sX11_readsAll_100, sX11_readsAll_101, sX11_readsAll_104, sX11_readsAll_105, ↓hp103_1]
    rw [q]
    simp (disch := omega) only [eX11_readsAll, sX11_readsAll_0, sX11_readsAll_1, sX11_readsAll_4, sX11_readsAll_5, sX11_readsAll_8, sX11_readsAll_9, sX11_readsAll_10, sX11_readsAll_11, sX11_readsAll_12, sX11_readsAll_15, sX11_readsAll_16, sX11_readsAll_17, sX11_readsAll_20, sX11_readsAll_21, sX11_readsAll_22, sX11_readsAll_25, sX11_readsAll_26, sX11_readsAll_27, sX11_readsAll_30, sX11_readsAll_31, sX11_readsAll_34, sX11_readsAll_36, sX11_readsAll_39, sX11_readsAll_40, sX11_readsAll_43, sX11_readsAll_45, sX11_readsAll_48, sX11_readsAll_49, sX11_readsAll_50, sX11_readsAll_53, sX11_readsAll_54, sX11_readsAll_55, sX11_readsAll_58, sX11_readsAll_59, sX11_readsAll_62, sX11_readsAll_63, sX11_readsAll_66, sX11_readsAll_67, sX11_readsAll_70, sX11_readsAll_71, sX11_readsAll_74, sX11_readsAll_75, sX11_readsAll_78, sX11_readsAll_79, sX11_readsAll_80, sX11_readsAll_81, sX11_readsAll_84, sX11_readsAll_87, sX11_readsAll_88, sX11_readsAll_89, sX11_readsAll_90, sX11_readsAll_93, sX11_readsAll_94, sX11_readsAll_97, sX11_readsAll_100, sX11_readsAll_101, sX11_readsAll_104, sX11_readsAll_105, ↓hf103_9, e9, ↓if_pos, ↓if_neg, ↓reduceIte, or_true, not_true_eq_false]
  · rw [if_neg y]
    have e9 : ¬ fF F' 1 0 103 9 = 0 := by rw [fF_n (by omega)]; exact y
    have q : ∀ L st, rn mX11_readsAll 93 L st (HP A' (aup F' 103 (fup (F' 103) 1 0)) E) = rn mX11_readsAll 93 L st (HP A' (fF F' 1 0) E) := fun _ _ => rfl
    simp (disch := omega) only [eX11_readsAll, sX11_readsAll_0, sX11_readsAll_1, sX11_readsAll_4, sX11_readsAll_5, sX11_readsAll_8, sX11_readsAll_9, sX11_readsAll_10, sX11_readsAll_11, sX11_readsAll_12, sX11_readsAll_15, sX11_readsAll_16, sX11_readsAll_17, sX11_readsAll_20, sX11_readsAll_21, sX11_readsAll_22, sX11_readsAll_25, sX11_readsAll_26, sX11_readsAll_27, sX11_readsAll_30, sX11_readsAll_31, sX11_readsAll_34, sX11_readsAll_36, sX11_readsAll_39, sX11_readsAll_40, sX11_readsAll_43, sX11_readsAll_45, sX11_readsAll_48, sX11_readsAll_49, sX11_readsAll_50, sX11_readsAll_53, sX11_readsAll_54, sX11_readsAll_55, sX11_readsAll_58, sX11_readsAll_59, sX11_readsAll_62, sX11_readsAll_63, sX11_readsAll_66, sX11_readsAll_67, sX11_readsAll_70, sX11_readsAll_71, sX11_readsAll_74, sX11_readsAll_75, sX11_readsAll_78, sX11_readsAll_79, sX11_readsAll_80, sX11_readsAll_81, sX11_readsAll_84, sX11_readsAll_87, sX11_readsAll_88, sX11_readsAll_89, sX11_readsAll_90, sX11_readsAll_94, sX11_readsAll_97, sX11_readsAll_100, sX11_readsAll_101, sX11_readsAll_104, sX11_readsAll_105, ↓hp103_1]
    rw [q]
    simp (disch := omega) only [eX11_readsAll, sX11_readsAll_0, sX11_readsAll_1, sX11_readsAll_4, sX11_readsAll_5, sX11_readsAll_8, sX11_readsAll_9, sX11_readsAll_10, sX11_readsAll_11, sX11_readsAll_12, sX11_readsAll_15, sX11_readsAll_16, sX11_readsAll_17, sX11_readsAll_20, sX11_readsAll_21, sX11_readsAll_22, sX11_readsAll_25, sX11_readsAll_26, sX11_readsAll_27, sX11_readsAll_30, sX11_readsAll_31, sX11_readsAll_34, sX11_readsAll_36, sX11_readsAll_39, sX11_readsAll_40, sX11_readsAll_43, sX11_readsAll_45, sX11_readsAll_48, sX11_readsAll_49, sX11_readsAll_50, sX11_readsAll_53, sX11_readsAll_54, sX11_readsAll_55, sX11_readsAll_58, sX11_readsAll_59, sX11_readsAll_62, sX11_readsAll_63, sX11_readsAll_66, sX11_readsAll_67, sX11_readsAll_70, sX11_readsAll_71, sX11_readsAll_74, sX11_readsAll_75, sX11_readsAll_78, sX11_readsAll_79, sX11_readsAll_80, sX11_readsAll_81, sX11_readsAll_84, sX11_readsAll_87, sX11_readsAll_88, sX11_readsAll_89, sX11_readsAll_90, sX11_readsAll_93, sX11_readsAll_94, sX11_readsAll_97, sX11_readsAll_100, sX11_readsAll_101, sX11_readsAll_104, sX11_readsAll_105, ↓hf103_9, ↓if_pos e9, ↓if_neg, ↓reduceIte, true_or]
/-- a run of the class that stops *)-/
def stpc (b : Nat → Int) (L : Int) (ρ : zS) : Prop := (tkr b L ρ).1 = -1 → (tkx b L ρ).2.2.1 = -1
theorem crn_det : ∀ (n m : Nat) (σ ρ τ : zS), crn b L n σ ρ → crn b L m σ τ → stpc b L ρ → stpc b L τ → ρ = τ
  | 0, 0, σ, ρ, τ, h, k, _, _ => by
    have e1 : ρ = σ := h
    have e2 : τ = σ := k
    rw [e1, e2]
  | 0, m + 1, σ, ρ, τ, h, k, s, _ => by
    have e1 : ρ = σ := h
    rw [e1] at s
    exact absurd (s k.1) k.2.1
  | n + 1, 0, σ, ρ, τ, h, k, _, s => by
    have e1 : τ = σ := k
    rw [e1] at s
    exact absurd (s h.1) h.2.1
  | n + 1, m + 1, σ, ρ, τ, h, k, s, s' => crn_det n m (nxs b L σ) ρ τ h.2.2 k.2.2 s s'
/-- the reader's numbers at the start *)-/
def rv0 (f : Nat → Int) : Nat → Int := fup (fup (fup (fup (fup (fup (fup f 1 0) 3 0) 4 0) 5 0) 6 0) 7 0) 8 0
def rs0 (F : Nat → Nat → Int) : zS := (0, F 2 5, [], [], rv0 (F 6))
theorem rs0_ok (hL : 0 ≤ L) (h5 : -1 ≤ F 2 5 ∧ F 2 5 ≤ 99999) : cok L (rs0 F) := by
  have e : ∀ k, 4 ≤ k → k ≤ 8 → rv0 (F 6) k = 0 := fun k a c => by
    unfold rv0
    by_cases q : k = 8
    · rw [q, fup_s]
    · rw [fup_n q]
      by_cases q : k = 7
      · rw [q, fup_s]
      · rw [fup_n q]
        by_cases q : k = 6
        · rw [q, fup_s]
        · rw [fup_n q]
          by_cases q : k = 5
          · rw [q, fup_s]
          · rw [fup_n q]
            have q : k = 4 := by omega
            rw [q, fup_s]
  refine ⟨⟨(fun o ho => by cases ho), e 7 (by omega) (by omega), e 8 (by omega) (by omega), ?_, ?_, ?_, ?_⟩, ⟨Int.le_refl _, hL⟩, h5⟩
  · show 0 ≤ rv0 (F 6) 5 ∧ rv0 (F 6) 5 ≤ 12
    rw [e 5 (by omega) (by omega)]; omega
  · show 0 ≤ rv0 (F 6) 6 ∧ rv0 (F 6) 6 ≤ 60
    rw [e 6 (by omega) (by omega)]; omega
  · show (([] : List Int).length : Int) + (([] : List Int).length : Int) + (if rv0 (F 6) 4 = 0 then 0 else 1) ≤ 0
    rw [e 4 (by omega) (by omega), if_pos rfl, List.length_nil]; omega
  · show 0 ≤ rv0 (F 6) 4 ∧ rv0 (F 6) 4 ≤ 4
    rw [e 4 (by omega) (by omega)]; omega
theorem c_read {n : Nat} (hb : ∀ j, 0 ≤ A 3 j ∧ A 3 j ≤ 255) (hL : 0 ≤ F 2 1 ∧ F 2 1 ≤ 400) (h3 : 0 ≤ F 2 3 ∧ F 2 3 ≤ 400) (h5 : -1 ≤ F 2 5 ∧ F 2 5 ≤ 99999) (r : crn (A 3) (F 2 1) n (rs0 F) ρ) (s : stpc (A 3) (F 2 1) ρ) : ∃ A1 F1, cl mX6_read [vr 6, vr 2] (HP A F E) = some (vi (if (tkr (A 3) (F 2 1) ρ).1 = -1 then 0 else 1 + 8 * (tkx (A 3) (F 2 1) ρ).2.1 + (tkr (A 3) (F 2 1) ρ).1), HP A1 F1 E) ∧ rdf A F A1 F1 ∧ rdS A1 F1 (A 3) (F 2 1) (nxs (A 3) (F 2 1) ρ) ∧ cok (F 2 1) ρ := by
  generalize hF1 : aup (aup F 6 (rv0 (F 6))) 2 (fup (F 2) 2 0) = F1
  have rw' : ∀ G : Nat → Nat → Int, cl mX8_rewind [vr 2] (HP A G E) = some (vn, HP A (aup G 2 (fup (G 2) 2 0)) E) := fun G => by
    simp (disch := omega) only [eX8_rewind, sX8_rewind_0, sX8_rewind_1, sX8_rewind_2, sX8_rewind_5, ↓hp2_2]
  have rw2 := rw' (aup F 6 (rv0 (F 6)))
  rw [aup_n (show (2 : Nat) ≠ 6 by omega), hF1] at rw2
  have f6 : F1 6 = rv0 (F 6) := by rw [← hF1, aup_n (by omega), aup_s]
  have f2 : F1 2 = fup (F 2) 2 0 := by rw [← hF1, aup_s]
  have pre : cl mX6_read [vr 6, vr 2] (HP A F E) = rn mX6_read 41 [vr 6, vr 2, vi 0, vn] [] (HP A F1 E) := by
    have ee : aup F 6 (fup (fup (fup (fup (fup (fup (fup (F 6) 1 0) 3 0) 4 0) 5 0) 6 0) 7 0) 8 0) = aup F 6 (rv0 (F 6)) := rfl
    simp (disch := omega) only [eX6_read, sX6_read_0, sX6_read_1, sX6_read_2, sX6_read_5, sX6_read_6, sX6_read_7, sX6_read_10, sX6_read_11, sX6_read_12, sX6_read_15, sX6_read_16, sX6_read_17, sX6_read_20, sX6_read_21, sX6_read_22, sX6_read_25, sX6_read_26, sX6_read_27, sX6_read_30, sX6_read_31, sX6_read_32, sX6_read_35, sX6_read_36, sX6_read_39, sX6_read_40, sX6_read_42, sX6_read_45, sX6_read_48, sX6_read_49, sX6_read_52, sX6_read_53, sX6_read_54, sX6_read_57, sX6_read_58, sX6_read_59, sX6_read_60, sX6_read_63, sX6_read_64, sX6_read_65, sX6_read_68, sX6_read_69, sX6_read_70, sX6_read_73, sX6_read_74, sX6_read_77, sX6_read_78, sX6_read_79, sX6_read_82, sX6_read_85, sX6_read_86, sX6_read_87, sX6_read_90, ↓hk2, ↓hk6, ↓hp6_1, ↓hp6_3, ↓hp6_4, ↓hp6_5, ↓hp6_6, ↓hp6_7, ↓hp6_8, aup_s, aup_aup, ee, ↓bndv_at rw2]
  have c0 := rs0_ok (F := F) hL.1 h5
  have s0 : rdS A F1 (A 3) (F 2 1) (rs0 F) := by
    refine ⟨⟨?_, fun k hk => by simp [rs0] at hk, ?_, fun k hk => by simp [rs0] at hk, fun k _ _ => by rw [f6]; rfl⟩, rfl, by rw [f2, fup_n (by omega)], by rw [f2, fup_s]; rfl, by rw [f2, fup_n (by omega)]; rfl, by rw [f2, fup_n (by omega)]; exact h3⟩
    · rw [f6]; unfold rv0; simp (disch := omega) only [fup_n, fup_s]; rfl
    · rw [f6]; unfold rv0; simp (disch := omega) only [fup_n, fup_s]; rfl
  have rf0 : rdf A F A F1 := ⟨fun _ _ _ => rfl, fun j a c => by rw [← hF1, aup_n c, aup_n a]⟩
  obtain ⟨A2, F2, x3, r1, r2, r3, r4, r5⟩ := q_run (E := E) hb hL.2 n (rs0 F) ρ A F1 0 vn r c0 s0 (by show ((0 : Nat) : Int) ≤ 0; omega)
  have cx := r3.2.1
  obtain ⟨A3, F3, q1, q⟩ := q_tok (E := E) hb hL.2 r3 r2 (k := 0 + n) (by omega) (x3 := x3)
  have r1' : rn mX6_read 41 [vr 6, vr 2, vi 0, vn] [] (HP A F1 E) = _ := r1
  refine ⟨A3, F3, ?_, rdf_t rf0 (rdf_t r4 q1), ?_, r3⟩
  · rw [pre, r1']
    rcases q with ⟨a1, a2, a3⟩ | ⟨a1, a2, a3, a4⟩ | ⟨a1, a2, a3, a4⟩
    · rw [if_neg a1]; exact a2
    · rw [if_pos a1]; exact a3
    · exact absurd (s a1) a2
  · rcases q with ⟨a1, a2, a3⟩ | ⟨a1, a2, a3, a4⟩ | ⟨a1, a2, a3, a4⟩
    · exact a3
    · exact a4
    · exact a4
end RR
