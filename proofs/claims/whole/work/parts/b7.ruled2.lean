/-! ruled, the call -/
def rlN (P : Nat → Bool) : Nat → Int × Int → Int × Int
  | 0, x => x
  | n + 1, x => rlN P n (if P n then (x.1 + 1, (n : Int) - 1) else x)
section RL
variable {A F : Nat → Nat → Int} {E : zE} {G Z : Nat}
/-- the class's told world walks in work *)-/
theorem c_told {A0 F0 : Nat → Nat → Int} {b : Nat} {Q : (Int → Int) → Int} (h0 : inv A0 F0 E) (r : SR1 G (A0 13) (A0 11) (A0 17) (A0 18) (A0 19) (F0 16 3) (A0 113)) (q : cR A0 E b Q) (c : cfr A0 F0 A F) (h : cn 82 (A 15)) : ∃ A' F', cl mX9_copyFrom [vr 14, vr 10] (HP A F E) = some (vn, HP A' F' E) ∧ A' 15 = A0 11 ∧ cfr A0 F0 A' F' ∧ cw A' F' E G Q b ∧ F' 14 1 = -1 ∧ (∀ j, j ≠ 15 → A' j = A j) ∧ ∀ j, j ≠ 14 → F' j = F j := by
  have e11 : A 11 = A0 11 := c.1 11 (by omega) (by omega) (by omega) (by omega) (by unfold isk; omega)
  have cp := h_copy (A := A) (F := F) (E := E) wad_14 wad_10 h (by show cn 82 (A 11); rw [e11]; exact h0.2.2.1.1 10 wad_10)
  simp only [Nat.reduceAdd] at cp
  rw [e11] at cp
  refine ⟨_, _, cp, aup_s, cfr_t c ⟨fun j j1 _ _ _ _ => aup_n j1, fun j j1 _ => aup_n j1⟩, ⟨by rw [aup_s]; exact r.2.1, by rw [aup_s]; exact h0.2.2.1.1 10 wad_10, cR_f q (fun j j1 j2 => ?_)⟩, by rw [aup_s, fup_s], fun j hj => aup_n hj, fun j hj => aup_n hj⟩
  rw [aup_n (by omega)]
  exact c.1 j (by omega) (by omega) (by omega) (by omega) j2
/-- notes as they are, wherever only work has changed -/
theorem c_notes {A0 F0 : Nat → Nat → Int} (r : SR1 G (A0 13) (A0 11) (A0 17) (A0 18) (A0 19) (F0 16 3) (A0 113)) (hZ : F0 16 3 = (Z : Int)) (c : cfr A0 F0 A F) : (F 16 3 = (Z : Int) ∧ Z ≤ 10) ∧ (A 17 = A0 17 ∧ A 18 = A0 18 ∧ A 19 = A0 19) ∧ ∀ k, k < Z → (0 ≤ A 17 k ∧ A 17 k ≤ 60) ∧ 0 ≤ A 18 k ∧ A 18 k ≤ 4 := by
  have e17 : A 17 = A0 17 := c.1 17 (by omega) (by omega) (by omega) (by omega) (by unfold isk; omega)
  have e18 : A 18 = A0 18 := c.1 18 (by omega) (by omega) (by omega) (by omega) (by unfold isk; omega)
  have e19 : A 19 = A0 19 := c.1 19 (by omega) (by omega) (by omega) (by omega) (by unfold isk; omega)
  have zb := r.2.2.2.2.2.2.2.1
  have hG5 := r.1.2.1
  refine ⟨⟨by rw [c.2 16 (by omega) (by omega)]; exact hZ, by omega⟩, ⟨e17, e18, e19⟩, fun k hk => ?_⟩
  have nr := r.2.2.2.2.2.2.2.2.2.1 k (by omega)
  unfold NR at nr
  rw [e17, e18]
  exact ⟨nr.1, nr.2.1.1, by omega⟩
theorem c_rightly {A0 F0 : Nat → Nat → Int} {Q : (Int → Int) → Int} {k : Int} (h0 : inv A0 F0 E) (r : SR1 G (A0 13) (A0 11) (A0 17) (A0 18) (A0 19) (F0 16 3) (A0 113)) (hZ : F0 16 3 = (Z : Int)) (k0 : -1 ≤ k) (k1 : k < (E.2.1 : Int)) (q : cR A0 E (rad k) Q) (c : cfr A0 F0 A F) (h : cn 82 (A 15)) : ∃ A' F', cl mX10_rightlyRuled [vr 1, vi k] (HP A F E) = some (vi (if alS Q G Z (A0 17) (A0 18) (A0 19) 61 0 (A0 11) then 1 else 0), HP A' F' E) ∧ cfr A0 F0 A' F' ∧ cn 82 (A' 15) := by
  obtain ⟨A1, F1, s1, s2, s3, s4, _⟩ := c_told h0 r q c h
  obtain ⟨⟨n1, n2⟩, ⟨n3, n4, n5⟩, n6⟩ := c_notes r hZ s3
  obtain ⟨A2, F2, t1, t2, t3, _⟩ := c_hold (Z := Z) s4 n1 n2 n6
  rw [n3, n4, n5, s2] at t1
  have e1 : F1 1 = F0 1 := s3.2 1 (by omega) (by omega)
  have rf := E_ruleOf (A := A1) (F := F1) (E := E) (k := k) (by rw [e1]; exact h0.2.1.2.2.1) h0.2.1.1 k0 k1
  refine ⟨A2, F2, ?_, cfr_t s3 t2, t3⟩
  by_cases y : alS Q G Z (A0 17) (A0 18) (A0 19) 61 0 (A0 11) = true
  · rw [if_pos y] at t1 ⊢
    simp (disch := omega) only [eX10_rightlyRuled, sX10_rightlyRuled_0, sX10_rightlyRuled_1, sX10_rightlyRuled_4, sX10_rightlyRuled_5, sX10_rightlyRuled_8, sX10_rightlyRuled_11, sX10_rightlyRuled_12, sX10_rightlyRuled_15, sX10_rightlyRuled_16, sX10_rightlyRuled_19, sX10_rightlyRuled_20, sX10_rightlyRuled_21, sX10_rightlyRuled_24, sX10_rightlyRuled_27, ↓hk1, ↓hf1_9, ↓hf1_7, ↓hf1_10, ↓hk14, ↓hk16, ↓bndv_at s1, ↓bndr_at rf, ↓bndi_at t1, or_true, ↓reduceIte]
  · rw [if_neg y] at t1 ⊢
    simp (disch := omega) only [eX10_rightlyRuled, sX10_rightlyRuled_0, sX10_rightlyRuled_1, sX10_rightlyRuled_4, sX10_rightlyRuled_5, sX10_rightlyRuled_8, sX10_rightlyRuled_11, sX10_rightlyRuled_12, sX10_rightlyRuled_15, sX10_rightlyRuled_16, sX10_rightlyRuled_19, sX10_rightlyRuled_20, sX10_rightlyRuled_21, sX10_rightlyRuled_24, sX10_rightlyRuled_27, ↓hk1, ↓hf1_9, ↓hf1_7, ↓hf1_10, ↓hk14, ↓hk16, ↓bndv_at s1, ↓bndr_at rf, ↓bndi_at t1, true_or, ↓reduceIte]
theorem c_rl_l {A0 F0 : Nat → Nat → Int} {Qf : Nat → (Int → Int) → Int} {w : Int} (h0 : inv A0 F0 E) (r : SR1 G (A0 13) (A0 11) (A0 17) (A0 18) (A0 19) (F0 16 3) (A0 113)) (hZ : F0 16 3 = (Z : Int)) (hQf : ∀ k, k ≤ E.2.1 → cR A0 E (rad ((k : Int) - 1)) (Qf k)) : ∀ (n : Nat) (A F : Nat → Nat → Int) (x : Int × Int), n ≤ E.2.1 + 1 → (0 ≤ x.1 ∧ x.1 + n ≤ 1000) → cfr A0 F0 A F → cn 82 (A 15) → ∃ A' F', rn mX10_ruled 32 [vr 1, vi w, vi x.1, vi x.2, vi ((n : Int) - 2)] [] (HP A F E) = rn mX10_ruled 59 [vr 1, vi w, vi (rlN (fun k => alS (Qf k) G Z (A0 17) (A0 18) (A0 19) 61 0 (A0 11)) n x).1, vi (rlN (fun k => alS (Qf k) G Z (A0 17) (A0 18) (A0 19) 61 0 (A0 11)) n x).2, vi (-2)] [] (HP A' F' E) ∧ cfr A0 F0 A' F' ∧ cn 82 (A' 15) := by
  have h6 := h0.2.1.1
  intro n
  induction n with
  | zero =>
    intro A F x hn hx c h
    refine ⟨A, F, ?_, c, h⟩
    rw [sX10_ruled_32, rlN]
    simp (disch := omega) only [eX10_ruled, sX10_ruled_0, sX10_ruled_1, sX10_ruled_4, sX10_ruled_7, sX10_ruled_8, sX10_ruled_9, sX10_ruled_10, sX10_ruled_13, sX10_ruled_16, sX10_ruled_18, sX10_ruled_19, sX10_ruled_20, sX10_ruled_21, sX10_ruled_23, sX10_ruled_24, sX10_ruled_25, sX10_ruled_28, sX10_ruled_29, sX10_ruled_30, sX10_ruled_34, sX10_ruled_35, sX10_ruled_38, sX10_ruled_39, sX10_ruled_41, sX10_ruled_44, sX10_ruled_47, sX10_ruled_50, sX10_ruled_52, sX10_ruled_53, sX10_ruled_56, sX10_ruled_60, sX10_ruled_63, sX10_ruled_64, sX10_ruled_67, sX10_ruled_68, ↓if_pos]
    rfl
  | succ n ih =>
    intro A F x hn hx c h
    obtain ⟨A1, F1, t1, t2, t3⟩ := c_rightly (k := (n : Int) - 1) h0 r hZ (by omega) (by omega) (hQf n (by omega)) c h
    have e : (n : Int) - 1 + -1 = (n : Int) - 2 := by omega
    rw [rlN, show (((n + 1 : Nat) : Int) - 2) = (n : Int) - 1 by omega]
    by_cases z : alS (Qf n) G Z (A0 17) (A0 18) (A0 19) 61 0 (A0 11) = true
    · rw [if_pos z] at t1
      rw [if_pos z]
      obtain ⟨A2, F2, u1, u2, u3⟩ := ih A1 F1 (x.1 + 1, (n : Int) - 1) (by omega) ⟨by show 0 ≤ x.1 + 1; omega, by show x.1 + 1 + (n : Int) ≤ 1000; omega⟩ t2 t3
      refine ⟨A2, F2, ?_, u2, u3⟩
      rw [← u1, sX10_ruled_32]
      simp (disch := omega) only [eX10_ruled, sX10_ruled_0, sX10_ruled_1, sX10_ruled_4, sX10_ruled_7, sX10_ruled_8, sX10_ruled_9, sX10_ruled_10, sX10_ruled_13, sX10_ruled_16, sX10_ruled_18, sX10_ruled_19, sX10_ruled_20, sX10_ruled_21, sX10_ruled_23, sX10_ruled_24, sX10_ruled_25, sX10_ruled_28, sX10_ruled_29, sX10_ruled_30, sX10_ruled_34, sX10_ruled_35, sX10_ruled_38, sX10_ruled_39, sX10_ruled_41, sX10_ruled_44, sX10_ruled_47, sX10_ruled_50, sX10_ruled_52, sX10_ruled_53, sX10_ruled_56, sX10_ruled_60, sX10_ruled_63, sX10_ruled_64, sX10_ruled_67, sX10_ruled_68, ↓hk1, ↓bndi_at t1, ↓if_neg, ↓if_pos, i32_of, e]
    · rw [if_neg z] at t1
      rw [if_neg z]
      obtain ⟨A2, F2, u1, u2, u3⟩ := ih A1 F1 x (by omega) ⟨hx.1, by omega⟩ t2 t3
      refine ⟨A2, F2, ?_, u2, u3⟩
      rw [← u1, sX10_ruled_32]
      simp (disch := omega) only [eX10_ruled, sX10_ruled_0, sX10_ruled_1, sX10_ruled_4, sX10_ruled_7, sX10_ruled_8, sX10_ruled_9, sX10_ruled_10, sX10_ruled_13, sX10_ruled_16, sX10_ruled_18, sX10_ruled_19, sX10_ruled_20, sX10_ruled_21, sX10_ruled_23, sX10_ruled_24, sX10_ruled_25, sX10_ruled_28, sX10_ruled_29, sX10_ruled_30, sX10_ruled_34, sX10_ruled_35, sX10_ruled_38, sX10_ruled_39, sX10_ruled_41, sX10_ruled_44, sX10_ruled_47, sX10_ruled_50, sX10_ruled_52, sX10_ruled_53, sX10_ruled_56, sX10_ruled_60, sX10_ruled_63, sX10_ruled_64, sX10_ruled_67, sX10_ruled_68, ↓hk1, ↓bndi_at t1, ↓if_neg, ↓if_pos, i32_of, e]
theorem m_rl_l {P : Nat → Bool} {w : Int} {R : Nat} (hR : R ≤ 6) (hP : ∀ k, k ≤ R → A 121 k = if P k then 1 else 0) : ∀ (n : Nat) (x : Int × Int), n ≤ R + 1 → (0 ≤ x.1 ∧ x.1 + n ≤ 1000) → rn mX11_ruled 36 [vr 103, vi w, vi x.1, vi x.2, vi ((n : Int) - 1)] [] (HP A F E) = rn mX11_ruled 68 [vr 103, vi w, vi (rlN P n x).1, vi (rlN P n x).2, vi (-1)] [] (HP A F E) := by
  intro n
  induction n with
  | zero =>
    intro x hn hx
    rw [sX11_ruled_36, rlN]
    simp (disch := omega) only [eX11_ruled, sX11_ruled_0, sX11_ruled_1, sX11_ruled_4, sX11_ruled_7, sX11_ruled_8, sX11_ruled_9, sX11_ruled_10, sX11_ruled_11, sX11_ruled_14, sX11_ruled_17, sX11_ruled_19, sX11_ruled_20, sX11_ruled_21, sX11_ruled_22, sX11_ruled_25, sX11_ruled_26, sX11_ruled_27, sX11_ruled_29, sX11_ruled_30, sX11_ruled_31, sX11_ruled_34, sX11_ruled_38, sX11_ruled_41, sX11_ruled_42, sX11_ruled_45, sX11_ruled_47, sX11_ruled_48, sX11_ruled_51, sX11_ruled_54, sX11_ruled_56, sX11_ruled_57, sX11_ruled_58, sX11_ruled_59, sX11_ruled_62, sX11_ruled_65, sX11_ruled_69, sX11_ruled_72, sX11_ruled_73, sX11_ruled_76, sX11_ruled_77, ↓if_pos]
    rfl
  | succ n ih =>
    intro x hn hx
    have p := hP n (by omega)
    have e : (n : Int) + -1 = (n : Int) - 1 := by omega
    rw [rlN, sX11_ruled_36, show (((n + 1 : Nat) : Int) - 1) = (n : Int) by omega]
    by_cases z : P n = true
    · rw [if_pos z] at p
      rw [if_pos z, ← ih (x.1 + 1, (n : Int) - 1) (by omega) ⟨by show 0 ≤ x.1 + 1; omega, by show x.1 + 1 + (n : Int) ≤ 1000; omega⟩]
      simp (disch := omega) only [eX11_ruled, sX11_ruled_0, sX11_ruled_1, sX11_ruled_4, sX11_ruled_7, sX11_ruled_8, sX11_ruled_9, sX11_ruled_10, sX11_ruled_11, sX11_ruled_14, sX11_ruled_17, sX11_ruled_19, sX11_ruled_20, sX11_ruled_21, sX11_ruled_22, sX11_ruled_25, sX11_ruled_26, sX11_ruled_27, sX11_ruled_29, sX11_ruled_30, sX11_ruled_31, sX11_ruled_34, sX11_ruled_38, sX11_ruled_41, sX11_ruled_42, sX11_ruled_45, sX11_ruled_47, sX11_ruled_48, sX11_ruled_51, sX11_ruled_54, sX11_ruled_56, sX11_ruled_57, sX11_ruled_58, sX11_ruled_59, sX11_ruled_62, sX11_ruled_65, sX11_ruled_69, sX11_ruled_72, sX11_ruled_73, sX11_ruled_76, sX11_ruled_77, ↓hf103_34, ↓hg121, Int.toNat_natCast, p, ↓if_neg, ↓if_pos, i32_of, e]
    · rw [if_neg z] at p
      rw [if_neg z, ← ih x (by omega) ⟨hx.1, by omega⟩]
      simp (disch := omega) only [eX11_ruled, sX11_ruled_0, sX11_ruled_1, sX11_ruled_4, sX11_ruled_7, sX11_ruled_8, sX11_ruled_9, sX11_ruled_10, sX11_ruled_11, sX11_ruled_14, sX11_ruled_17, sX11_ruled_19, sX11_ruled_20, sX11_ruled_21, sX11_ruled_22, sX11_ruled_25, sX11_ruled_26, sX11_ruled_27, sX11_ruled_29, sX11_ruled_30, sX11_ruled_31, sX11_ruled_34, sX11_ruled_38, sX11_ruled_41, sX11_ruled_42, sX11_ruled_45, sX11_ruled_47, sX11_ruled_48, sX11_ruled_51, sX11_ruled_54, sX11_ruled_56, sX11_ruled_57, sX11_ruled_58, sX11_ruled_59, sX11_ruled_62, sX11_ruled_65, sX11_ruled_69, sX11_ruled_72, sX11_ruled_73, sX11_ruled_76, sX11_ruled_77, ↓hf103_34, ↓hg121, Int.toNat_natCast, p, ↓if_neg, ↓if_pos, i32_of, e]
theorem k_ruled {w : Int} (h : inv A F E) : prs mX10_ruled mX11_ruled [vi w] A F E := by
  have b := iS_b h.2.2.2.1
  have hs := E_hasSheet (A := A) (F := F) (E := E)
  have ms := fun A1 F1 => m_isSheet (A := A1) (F := F1) (E := E)
  have wi := E_within (v := w) (lo := 0) (hi := 1) (h := HP A F E)
  have mi := fun H => m_in (v := w) (lo := 0) (hi := 1) (h := H)
  by_cases z : 0 < A 13 0
  · rw [if_pos z] at hs
    by_cases z1 : 0 ≤ w ∧ w ≤ 1
    · rw [if_pos z1] at wi
      have hw : w = 0 ∨ w = 1 := by omega
      obtain ⟨G, r⟩ := b.2.2.2.2.2.2.mp z
      have zb := r.2.2.2.2.2.2.2.1
      obtain ⟨Z, hZ⟩ : ∃ Z : Nat, F 16 3 = (Z : Int) := ⟨(F 16 3).toNat, by omega⟩
      have hR := h.2.1
      have h6 := hR.1
      obtain ⟨Qf, hQf⟩ := iR_Qf hR
      obtain ⟨A1, F1, t1, t2, t3⟩ := c_rl_l (Qf := Qf) (w := w) h r hZ (fun k hk => (hQf k hk).1) (E.2.1 + 1) A F (0, -2) (by omega) ⟨by show (0 : Int) ≤ 0; omega, by show (0 : Int) + _ ≤ 1000; omega⟩ cfr_r (h.2.2.1.1 14 wad_14)
      have t1' := t1
      rw [show (((E.2.1 + 1 : Nat) : Int) - 2) = (E.2.1 : Int) - 1 by omega] at t1'
      simp only at t1'
      obtain ⟨A2, F2, u1, u2, u3⟩ := m_fills (Qf := Qf) (th := 0) (Z := Z) h r hZ t2 hQf
      have v := m_rl_l (A := A2) (F := F2) (E := E) (P := fun k => alS (Qf k) G Z (A 17) (A 18) (A 19) 61 0 (A 11)) (w := w) (R := E.2.1) h6 (fun k hk => (u3 k hk).1) (E.2.1 + 1) (0, -2) (by omega) ⟨by show (0 : Int) ≤ 0; omega, by show (0 : Int) + _ ≤ 1000; omega⟩
      have e2 : (((E.2.1 + 1 : Nat) : Int) - 1) = (E.2.1 : Int) := by omega
      rw [e2] at v
      simp only at v
      have hA : A1 113 = A 113 := cfr_113 t2
      have ms' := ms A1 F1
      rw [hA, if_pos (b.2.2.2.2.1.mpr z)] at ms'
      have mi' := mi (HP A1 F1 E)
      rw [if_pos z1] at mi'
      have f2 : F2 103 2 = (E.2.1 : Int) := by
        rw [u2.2.2 2 (by omega) (by omega) (by omega) (by omega) (by omega), t2.2 103 (by omega) (by omega)]; exact hR.2.2.2.1
      generalize hX : rlN (fun k => alS (Qf k) G Z (A 17) (A 18) (A 19) 61 0 (A 11)) (E.2.1 + 1) (0, -2) = X at *
      refine prs_q h (v := if w = 0 then X.1 else X.2) ?_ t2 t3 ?_ u2
      · simp (disch := omega) only [eX10_ruled, sX10_ruled_0, sX10_ruled_1, sX10_ruled_4, sX10_ruled_7, sX10_ruled_8, sX10_ruled_9, sX10_ruled_10, sX10_ruled_13, sX10_ruled_16, sX10_ruled_18, sX10_ruled_19, sX10_ruled_20, sX10_ruled_21, sX10_ruled_23, sX10_ruled_24, sX10_ruled_25, sX10_ruled_28, sX10_ruled_29, sX10_ruled_30, sX10_ruled_34, sX10_ruled_35, sX10_ruled_38, sX10_ruled_39, sX10_ruled_41, sX10_ruled_44, sX10_ruled_47, sX10_ruled_50, sX10_ruled_52, sX10_ruled_53, sX10_ruled_56, sX10_ruled_60, sX10_ruled_63, sX10_ruled_64, sX10_ruled_67, sX10_ruled_68, ↓hk1, ↓hf1_4, hR.2.2.1, ↓bndi_at hs, ↓bndi_at wi, i32_of, ↓if_pos, ↓if_neg]
        rw [t1']
        rcases hw with rfl | rfl
        · simp (disch := omega) only [eX10_ruled, sX10_ruled_0, sX10_ruled_1, sX10_ruled_4, sX10_ruled_7, sX10_ruled_8, sX10_ruled_9, sX10_ruled_10, sX10_ruled_13, sX10_ruled_16, sX10_ruled_18, sX10_ruled_19, sX10_ruled_20, sX10_ruled_21, sX10_ruled_23, sX10_ruled_24, sX10_ruled_25, sX10_ruled_28, sX10_ruled_29, sX10_ruled_30, sX10_ruled_34, sX10_ruled_35, sX10_ruled_38, sX10_ruled_39, sX10_ruled_41, sX10_ruled_44, sX10_ruled_47, sX10_ruled_50, sX10_ruled_52, sX10_ruled_53, sX10_ruled_56, sX10_ruled_59, sX10_ruled_60, sX10_ruled_63, sX10_ruled_64, sX10_ruled_67, sX10_ruled_68, ↓if_pos, ↓if_neg, ↓reduceIte]
        · simp (disch := omega) only [eX10_ruled, sX10_ruled_0, sX10_ruled_1, sX10_ruled_4, sX10_ruled_7, sX10_ruled_8, sX10_ruled_9, sX10_ruled_10, sX10_ruled_13, sX10_ruled_16, sX10_ruled_18, sX10_ruled_19, sX10_ruled_20, sX10_ruled_21, sX10_ruled_23, sX10_ruled_24, sX10_ruled_25, sX10_ruled_28, sX10_ruled_29, sX10_ruled_30, sX10_ruled_34, sX10_ruled_35, sX10_ruled_38, sX10_ruled_39, sX10_ruled_41, sX10_ruled_44, sX10_ruled_47, sX10_ruled_50, sX10_ruled_52, sX10_ruled_53, sX10_ruled_56, sX10_ruled_59, sX10_ruled_60, sX10_ruled_63, sX10_ruled_64, sX10_ruled_67, sX10_ruled_68, ↓if_pos, ↓if_neg, ↓reduceIte]
      · simp (disch := omega) only [eX11_ruled, sX11_ruled_0, sX11_ruled_1, sX11_ruled_4, sX11_ruled_7, sX11_ruled_8, sX11_ruled_9, sX11_ruled_10, sX11_ruled_11, sX11_ruled_14, sX11_ruled_17, sX11_ruled_19, sX11_ruled_20, sX11_ruled_21, sX11_ruled_22, sX11_ruled_25, sX11_ruled_26, sX11_ruled_27, sX11_ruled_29, sX11_ruled_30, sX11_ruled_31, sX11_ruled_34, sX11_ruled_38, sX11_ruled_41, sX11_ruled_42, sX11_ruled_45, sX11_ruled_47, sX11_ruled_48, sX11_ruled_51, sX11_ruled_54, sX11_ruled_56, sX11_ruled_57, sX11_ruled_58, sX11_ruled_59, sX11_ruled_62, sX11_ruled_65, sX11_ruled_69, sX11_ruled_72, sX11_ruled_73, sX11_ruled_76, sX11_ruled_77, ↓hk103, ↓hf103_2, ↓bndi_at ms', ↓bndi_at mi', ↓bndv_at u1, f2, ↓if_pos, ↓if_neg]
        rw [v]
        rcases hw with rfl | rfl
        · simp (disch := omega) only [eX11_ruled, sX11_ruled_0, sX11_ruled_1, sX11_ruled_4, sX11_ruled_7, sX11_ruled_8, sX11_ruled_9, sX11_ruled_10, sX11_ruled_11, sX11_ruled_14, sX11_ruled_17, sX11_ruled_19, sX11_ruled_20, sX11_ruled_21, sX11_ruled_22, sX11_ruled_25, sX11_ruled_26, sX11_ruled_27, sX11_ruled_29, sX11_ruled_30, sX11_ruled_31, sX11_ruled_34, sX11_ruled_38, sX11_ruled_41, sX11_ruled_42, sX11_ruled_45, sX11_ruled_47, sX11_ruled_48, sX11_ruled_51, sX11_ruled_54, sX11_ruled_56, sX11_ruled_57, sX11_ruled_58, sX11_ruled_59, sX11_ruled_62, sX11_ruled_65, sX11_ruled_68, sX11_ruled_69, sX11_ruled_72, sX11_ruled_73, sX11_ruled_76, sX11_ruled_77, ↓if_pos, ↓if_neg, ↓reduceIte]
        · simp (disch := omega) only [eX11_ruled, sX11_ruled_0, sX11_ruled_1, sX11_ruled_4, sX11_ruled_7, sX11_ruled_8, sX11_ruled_9, sX11_ruled_10, sX11_ruled_11, sX11_ruled_14, sX11_ruled_17, sX11_ruled_19, sX11_ruled_20, sX11_ruled_21, sX11_ruled_22, sX11_ruled_25, sX11_ruled_26, sX11_ruled_27, sX11_ruled_29, sX11_ruled_30, sX11_ruled_31, sX11_ruled_34, sX11_ruled_38, sX11_ruled_41, sX11_ruled_42, sX11_ruled_45, sX11_ruled_47, sX11_ruled_48, sX11_ruled_51, sX11_ruled_54, sX11_ruled_56, sX11_ruled_57, sX11_ruled_58, sX11_ruled_59, sX11_ruled_62, sX11_ruled_65, sX11_ruled_68, sX11_ruled_69, sX11_ruled_72, sX11_ruled_73, sX11_ruled_76, sX11_ruled_77, ↓if_pos, ↓if_neg, ↓reduceIte]
    · have ms' := ms A F
      have mi' := mi (HP A F E)
      rw [if_neg z1] at mi' wi
      rw [if_pos (b.2.2.2.2.1.mpr z)] at ms'
      refine prs_0 (v := -3) h ?_ ?_
      · simp (disch := omega) only [eX10_ruled, sX10_ruled_0, sX10_ruled_1, sX10_ruled_4, sX10_ruled_7, sX10_ruled_8, sX10_ruled_9, sX10_ruled_10, sX10_ruled_13, sX10_ruled_16, sX10_ruled_18, sX10_ruled_19, sX10_ruled_20, sX10_ruled_21, sX10_ruled_23, sX10_ruled_24, sX10_ruled_25, sX10_ruled_28, sX10_ruled_29, sX10_ruled_30, sX10_ruled_34, sX10_ruled_35, sX10_ruled_38, sX10_ruled_39, sX10_ruled_41, sX10_ruled_44, sX10_ruled_47, sX10_ruled_50, sX10_ruled_52, sX10_ruled_53, sX10_ruled_56, sX10_ruled_59, sX10_ruled_60, sX10_ruled_63, sX10_ruled_64, sX10_ruled_67, sX10_ruled_68, ↓hk1, ↓bndi_at hs, ↓bndi_at wi, ↓if_pos, ↓if_neg]
      · simp (disch := omega) only [eX11_ruled, sX11_ruled_0, sX11_ruled_1, sX11_ruled_4, sX11_ruled_7, sX11_ruled_8, sX11_ruled_9, sX11_ruled_10, sX11_ruled_11, sX11_ruled_14, sX11_ruled_17, sX11_ruled_19, sX11_ruled_20, sX11_ruled_21, sX11_ruled_22, sX11_ruled_25, sX11_ruled_26, sX11_ruled_27, sX11_ruled_29, sX11_ruled_30, sX11_ruled_31, sX11_ruled_34, sX11_ruled_38, sX11_ruled_41, sX11_ruled_42, sX11_ruled_45, sX11_ruled_47, sX11_ruled_48, sX11_ruled_51, sX11_ruled_54, sX11_ruled_56, sX11_ruled_57, sX11_ruled_58, sX11_ruled_59, sX11_ruled_62, sX11_ruled_65, sX11_ruled_68, sX11_ruled_69, sX11_ruled_72, sX11_ruled_73, sX11_ruled_76, sX11_ruled_77, ↓hk103, ↓bndi_at ms', ↓bndi_at mi', ↓if_pos, ↓if_neg]
  · have ms' := ms A F
    rw [if_neg z] at hs
    rw [if_neg (fun q => z (b.2.2.2.2.1.mp q))] at ms'
    refine prs_0 (v := -3) h ?_ ?_
    · simp (disch := omega) only [eX10_ruled, sX10_ruled_0, sX10_ruled_1, sX10_ruled_4, sX10_ruled_7, sX10_ruled_8, sX10_ruled_9, sX10_ruled_10, sX10_ruled_13, sX10_ruled_16, sX10_ruled_18, sX10_ruled_19, sX10_ruled_20, sX10_ruled_21, sX10_ruled_23, sX10_ruled_24, sX10_ruled_25, sX10_ruled_28, sX10_ruled_29, sX10_ruled_30, sX10_ruled_34, sX10_ruled_35, sX10_ruled_38, sX10_ruled_39, sX10_ruled_41, sX10_ruled_44, sX10_ruled_47, sX10_ruled_50, sX10_ruled_52, sX10_ruled_53, sX10_ruled_56, sX10_ruled_59, sX10_ruled_60, sX10_ruled_63, sX10_ruled_64, sX10_ruled_67, sX10_ruled_68, ↓hk1, ↓bndi_at hs, ↓if_pos, ↓if_neg]
    · simp (disch := omega) only [eX11_ruled, sX11_ruled_0, sX11_ruled_1, sX11_ruled_4, sX11_ruled_7, sX11_ruled_8, sX11_ruled_9, sX11_ruled_10, sX11_ruled_11, sX11_ruled_14, sX11_ruled_17, sX11_ruled_19, sX11_ruled_20, sX11_ruled_21, sX11_ruled_22, sX11_ruled_25, sX11_ruled_26, sX11_ruled_27, sX11_ruled_29, sX11_ruled_30, sX11_ruled_31, sX11_ruled_34, sX11_ruled_38, sX11_ruled_41, sX11_ruled_42, sX11_ruled_45, sX11_ruled_47, sX11_ruled_48, sX11_ruled_51, sX11_ruled_54, sX11_ruled_56, sX11_ruled_57, sX11_ruled_58, sX11_ruled_59, sX11_ruled_62, sX11_ruled_65, sX11_ruled_68, sX11_ruled_69, sX11_ruled_72, sX11_ruled_73, sX11_ruled_76, sX11_ruled_77, ↓hk103, ↓bndi_at ms', ↓if_pos, ↓if_neg]
end RL
