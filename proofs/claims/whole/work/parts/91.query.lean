/-! what is asked: frames, walks -/
/-- what the class leaves as it was while it is asked -/
def cfr (A F A' F' : Nat → Nat → Int) : Prop := (∀ j, j ≠ 15 → j ≠ 64 → j ≠ 65 → j ≠ 66 → ¬ isk j → A' j = A j) ∧ ∀ j, j ≠ 14 → j ≠ 63 → F' j = F j
/-- what the model leaves so -/
def mqf (A F A' F' : Nat → Nat → Int) : Prop := (∀ j, j ≠ 111 → j ≠ 112 → (j < 115 ∨ 122 < j) → A' j = A j) ∧ (∀ j, j ≠ 103 → F' j = F j) ∧ ∀ k, k ≠ 18 → k ≠ 29 → k ≠ 30 → k ≠ 31 → k ≠ 36 → F' 103 k = F 103 k
section QF
variable {A F A1 F1 A2 F2 : Nat → Nat → Int} {E : zE}
theorem cfr_r : cfr A F A F := ⟨fun _ _ _ _ _ _ => rfl, fun _ _ _ => rfl⟩
theorem cfr_t (h : cfr A F A1 F1) (k : cfr A1 F1 A2 F2) : cfr A F A2 F2 := ⟨fun j a b c d e => (k.1 j a b c d e).trans (h.1 j a b c d e), fun j a b => (k.2 j a b).trans (h.2 j a b)⟩
theorem mqf_t (h : mqf A F A1 F1) (k : mqf A1 F1 A2 F2) : mqf A F A2 F2 := ⟨fun j a b c => (k.1 j a b c).trans (h.1 j a b c), fun j a => (k.2.1 j a).trans (h.2.1 j a), fun j a b c d e => (k.2.2 j a b c d e).trans (h.2.2 j a b c d e)⟩
theorem mqf_r : mqf A F A F := ⟨fun _ _ _ _ => rfl, fun _ _ => rfl, fun _ _ _ _ _ _ => rfl⟩
theorem inv_q (h : inv A F E) (c : cfr A F A1 F1) (m : mqf A1 F1 A2 F2) (k : cn 82 (A1 15)) : inv A2 F2 E := by
  obtain ⟨hT, hR, hW, hS, hH, hI⟩ := h
  have kA : ∀ j, j ≠ 15 → j ≠ 64 → j ≠ 65 → j ≠ 66 → j ≠ 111 → j ≠ 112 → (j < 115 ∨ 122 < j) → ¬ isk j → A2 j = A j := fun j j1 j2 j3 j4 j5 j6 j7 j8 => by rw [m.1 j j5 j6 j7]; exact c.1 j j1 j2 j3 j4 j8
  have kF : ∀ j, j ≠ 14 → j ≠ 63 → j ≠ 103 → F2 j = F j := fun j j1 j2 j3 => by rw [m.2.1 j j3]; exact c.2 j j1 j2
  have kM : ∀ k, k ≠ 18 → k ≠ 29 → k ≠ 30 → k ≠ 31 → k ≠ 36 → F2 103 k = F 103 k := fun k k1 k2 k3 k4 k5 => by rw [m.2.2 k k1 k2 k3 k4 k5, c.2 103 (by omega) (by omega)]
  have kS : ∀ j, j < 64 → j ≠ 15 → A2 j = A j := fun j j1 j2 => kA j j2 (by omega) (by omega) (by omega) (by omega) (by omega) (by omega) (by unfold isk; omega)
  have kT : ∀ j, 66 < j → j < 127 → j ≠ 111 → j ≠ 112 → (j < 115 ∨ 122 < j) → A2 j = A j := fun j j1 j2 j3 j4 j5 => kA j (by omega) (by omega) (by omega) (by omega) j3 j4 j5 (by unfold isk; omega)
  refine ⟨?_, ?_, ?_, ?_, ?_, ?_⟩
  · exact iT_f hT (kS 3 (by omega) (by omega)) (kT 104 (by omega) (by omega) (by omega) (by omega) (by omega)) (kF 2 (by omega) (by omega) (by omega)) (kM 1 (by omega) (by omega) (by omega) (by omega) (by omega))
  · obtain ⟨r1, r2, r3, r4, r5, r6, r7, r8, r9⟩ := hR
    have e1 := kF 1 (by omega) (by omega) (by omega)
    refine ⟨r1, r2, by rw [e1]; exact r3, by rw [kM 2 (by omega) (by omega) (by omega) (by omega) (by omega)]; exact r4, by rw [e1]; exact r5, by rw [kM 21 (by omega) (by omega) (by omega) (by omega) (by omega), e1]; exact r6, by rw [kM 22 (by omega) (by omega) (by omega) (by omega) (by omega), e1]; exact r7, by rw [e1]; exact r8, fun i hi => RU_f (r9 i hi) (kA _ (by omega) (by omega) (by omega) (by omega) (by omega) (by omega) (by omega) (by unfold isk; omega)) (kT 105 (by omega) (by omega) (by omega) (by omega) (by omega)) (kT 107 (by omega) (by omega) (by omega) (by omega) (by omega)) (kT 108 (by omega) (by omega) (by omega) (by omega) (by omega))⟩
  · refine ⟨fun a ha => ?_, fun j hj => ?_⟩
    · by_cases q : a = 14
      · subst q; rw [m.1 _ (by omega) (by omega) (by omega)]; exact k
      · have := wad_b ha
        rw [kA (a + 1) (by omega) (by unfold wad at ha; omega) (by unfold wad at ha; omega) (by unfold wad at ha; omega) (by omega) (by omega) (by omega) (by unfold isk; omega)]; exact hW.1 a ha
    · unfold nad at hj
      rw [kA j (by omega) (by omega) (by omega) (by omega) (by omega) (by omega) (by omega) (by unfold isk; omega)]; exact hW.2 j hj
  · unfold iS
    rw [kS 13 (by omega) (by omega), kS 11 (by omega) (by omega), kS 17 (by omega) (by omega), kS 18 (by omega) (by omega), kS 19 (by omega) (by omega), kF 16 (by omega) (by omega) (by omega), kT 113 (by omega) (by omega) (by omega) (by omega) (by omega)]
    exact hS
  · exact iH_f hH (fun j hj => by
      rcases hj with hj | rfl | rfl
      · exact kS j (by omega) (by omega)
      · exact kT 114 (by omega) (by omega) (by omega) (by omega) (by omega)
      · exact kS 13 (by omega) (by omega)) (kF 20 (by omega) (by omega) (by omega)) (kM 24 (by omega) (by omega) (by omega) (by omega) (by omega))
  · exact iI_f hI (fun j hj => by
      rcases hj with hj | hj
      · exact kT j (by omega) (by omega) (by omega) (by omega) (by omega)
      · exact kT j (by omega) (by omega) (by omega) (by omega) (by omega)) (fun j _ _ => kF j (by omega) (by omega) (by omega))
theorem prs_q {c m : zMd} {as : List zV} {v : Int} (h : inv A F E) (e1 : cl c (vr 1 :: as) (HP A F E) = some (vi v, HP A1 F1 E)) (c1 : cfr A F A1 F1) (k : cn 82 (A1 15)) (e2 : cl m (vr 103 :: as) (HP A1 F1 E) = some (vi v, HP A2 F2 E)) (m1 : mqf A1 F1 A2 F2) : prs c m as A F E := ⟨v, A1, F1, E, A2, F2, E, e1, e2, inv_q h c1 m1 k, rfl⟩
end QF
/-- what holds while the class walks its world on: f the row now, Q how its rule turns -/
def cw (A F : Nat → Nat → Int) (E : zE) (G : Nat) (Q : (Int → Int) → Int) (b : Nat) : Prop := wok (A 15) G ∧ cn 82 (A 15) ∧ cR A E b Q
section CW
variable {A F : Nat → Nat → Int} {E : zE} {G b : Nat} {Q : (Int → Int) → Int}
theorem c_pass (h : cw A F E G Q b) : ∃ A' F', cl mX9_pass [vr 14, vr b] (HP A F E) = some (vn, HP A' F' E) ∧ A' 15 = psa Q G (A 15) ∧ cfr A F A' F' ∧ cw A' F' E G Q b ∧ F' 14 1 = plR Q G G 0 (A 15) (F 14 1) ∧ (∀ j, j ≠ 14 → F' j = F j) ∧ ∀ j, j ≠ 15 → ¬ isk j → A' j = A j := by
  obtain ⟨A', F', p1, p2, p3, p4, p5⟩ := h_pass (A := A) (F := F) (E := E) wad_14 h.1 h.2.2
  have e : A' 15 = psa Q G (A 15) := p2
  refine ⟨A', F', p1, e, ⟨fun j a _ _ _ d => p4 j a d, fun j a _ => p5 j a⟩, ⟨?_, ?_, cR_f h.2.2 (fun j j1 j2 => p4 j (by omega) j2)⟩, p3, p5, fun j a b => p4 j a b⟩
  · rw [e]; exact psa_ok h.2.2.1 h.1
  · rw [e]; exact psa_cn h.1.2.1 h.2.1
theorem c_walk_l {m : Nat} (hm : m < 100000) : ∀ (n k : Nat) (A F : Nat → Nat → Int), k + n = m → cw A F E G Q b → ∃ A' F', rn mX10_walkOn 2 [vr 1, vi (m : Int), vr b, vi (k : Int)] [] (HP A F E) = some (vn, HP A' F' E) ∧ A' 15 = psN Q G n (A 15) ∧ cfr A F A' F' ∧ cw A' F' E G Q b ∧ ∀ j, j ≠ 15 → ¬ isk j → A' j = A j := by
  intro n
  induction n with
  | zero =>
    intro k A F hk h
    have : k = m := by omega
    subst this
    refine ⟨A, F, ?_, rfl, cfr_r, h, fun _ _ _ => rfl⟩
    rw [sX10_walkOn_2]
    simp (disch := omega) only [eX10_walkOn, sX10_walkOn_0, sX10_walkOn_1, sX10_walkOn_3, sX10_walkOn_4, sX10_walkOn_7, sX10_walkOn_8, sX10_walkOn_11, sX10_walkOn_12, sX10_walkOn_15, sX10_walkOn_18, sX10_walkOn_21, ↓if_pos]
  | succ n ih =>
    intro k A F hk h
    obtain ⟨A1, F1, p1, p2, p3, p4, _, _, p5⟩ := c_pass h
    obtain ⟨A2, F2, t1, t2, t3, t4, t5⟩ := ih (k + 1) A1 F1 (by omega) p4
    refine ⟨A2, F2, ?_, by rw [t2, p2, psN], cfr_t p3 t3, t4, fun j a b => (t5 j a b).trans (p5 j a b)⟩
    rw [← t1, sX10_walkOn_2]
    simp (disch := omega) only [eX10_walkOn, sX10_walkOn_0, sX10_walkOn_1, sX10_walkOn_3, sX10_walkOn_4, sX10_walkOn_7, sX10_walkOn_8, sX10_walkOn_11, sX10_walkOn_12, sX10_walkOn_15, sX10_walkOn_18, sX10_walkOn_21, ↓hf1_9, ↓hk14, ↓bndv_at p1, ↓if_neg, i32_s]
theorem c_walk {m : Nat} (hm : m < 100000) (h : cw A F E G Q b) : ∃ A' F', cl mX10_walkOn [vr 1, vi (m : Int), vr b] (HP A F E) = some (vn, HP A' F' E) ∧ A' 15 = psN Q G m (A 15) ∧ cfr A F A' F' ∧ cw A' F' E G Q b ∧ ∀ j, j ≠ 15 → ¬ isk j → A' j = A j := by
  obtain ⟨A1, F1, r1, r2, r3, r4⟩ := c_walk_l (E := E) hm m 0 A F (by omega) h
  refine ⟨A1, F1, ?_, r2, r3, r4⟩
  rw [← r1]
  simp only [eX10_walkOn, sX10_walkOn_0, sX10_walkOn_1, sX10_walkOn_3, sX10_walkOn_4, sX10_walkOn_7, sX10_walkOn_8, sX10_walkOn_11, sX10_walkOn_12, sX10_walkOn_15, sX10_walkOn_18, sX10_walkOn_21]
  rfl
/-- the class begins anew from now -/
theorem c_restart {G : Nat} (h : inv A F E) (r : SR1 G (A 13) (A 11) (A 17) (A 18) (A 19) (F 16 3) (A 113)) (q : cR A E b Q) : ∃ A' F', cl mX10_restart [vr 1] (HP A F E) = some (vn, HP A' F' E) ∧ A' 15 = A 13 ∧ cfr A F A' F' ∧ cw A' F' E G Q b ∧ F' 14 1 = -1 := by
  have hW := h.2.2.1
  refine ⟨_, _, E_restart (hW.1 12 wad_12) (hW.1 14 wad_14), aup_s, ⟨fun j j1 _ _ _ _ => aup_n j1, fun j j1 _ => aup_n j1⟩, ⟨by rw [aup_s]; exact r.1, by rw [aup_s]; exact hW.1 12 wad_12, cR_f q (fun j j1 _ => aup_n (by omega))⟩, by rw [aup_s, fup_s]⟩
/-- the rule in force, wherever only work has changed -/
theorem c_force {A' F' : Nat → Nat → Int} (h : inv A F E) (c : cfr A F A' F') : cl mX10_ruleInForce [vr 1] (HP A' F' E) = some (vr (rad (F 1 5)), HP A' F' E) := by
  have e : F' 1 = F 1 := c.2 1 (by omega) (by omega)
  have r := h.2.1
  have := E_ruleInForce (A := A') (F := F') (E := E) (by rw [e]; exact r.2.2.1) r.1 (by rw [e]; exact r.2.2.2.2.1.1) (by rw [e]; exact r.2.2.2.2.1.2)
  rw [e] at this
  exact this
/-- what holds while the model walks on: kept, said, force -/
def mw (A F : Nat → Nat → Int) (G : Nat) (Q : (Int → Int) → Int) (f s0 : Nat → Int) : Prop := wok f G ∧ sdr (A 113) f ∧ mQ A F Q ∧ (∀ j, j < 76 → A 115 j = s0 (10 + j)) ∧ ∀ j, (j < 10 ∨ 86 ≤ j) → A 113 j = s0 j
/-- what the model may change while it walks on -/
def mwf (A F A' F' : Nat → Nat → Int) : Prop := (∀ j, j ≠ 111 → j ≠ 112 → j ≠ 113 → A' j = A j) ∧ (∀ j, j ≠ 103 → F' j = F j) ∧ ∀ k, k ≠ 18 → F' 103 k = F 103 k
theorem mwf_r : mwf A F A F := ⟨fun _ _ _ _ => rfl, fun _ _ => rfl, fun _ _ => rfl⟩
theorem mwf_t {A1 F1 A2 F2 : Nat → Nat → Int} (h : mwf A F A1 F1) (k : mwf A1 F1 A2 F2) : mwf A F A2 F2 := ⟨fun j a b c => (k.1 j a b c).trans (h.1 j a b c), fun j a => (k.2.1 j a).trans (h.2.1 j a), fun j a => (k.2.2 j a).trans (h.2.2 j a)⟩
variable {f s0 : Nat → Int}
theorem mw_keeps (r : wok f G) (sd : sdr (A 113) f) (q : mQ A F Q) : ∃ A', cl mX11_keeps [vr 103] (HP A F E) = some (vn, HP A' F E) ∧ (∀ j, j ≠ 115 → A' j = A j) ∧ mw A' F G Q f (A 113) := by
  obtain ⟨W, w1, w2⟩ := m_keeps (E := E) (A := A) (F := F)
  exact ⟨aup A 115 W, w1, fun j hj => aup_n hj, r, by rw [aup_n (by omega)]; exact sd, mQ_c q (aup_n (by omega)) (aup_n (by omega)) (aup_n (by omega)) rfl, fun j hj => by rw [aup_s]; exact w2 j hj, fun j _ => by rw [aup_n (by omega)]⟩
theorem mw_f {A' F' : Nat → Nat → Int} {f' : Nat → Int} (h : mw A F G Q f s0) (m : mfr A F A' F') (r : wok f' G) (sd : sdr (A' 113) f') : mw A' F' G Q f' s0 := by
  obtain ⟨h1, h2, h3, h4, h5⟩ := h
  exact ⟨r, sd, mQ_f h3 m, fun j hj => by rw [m.1 115 (by omega) (by omega) (by omega)]; exact h4 j hj, fun j hj => by rw [m.2.2.2 j hj]; exact h5 j hj⟩
theorem mw_pass (h : mw A F G Q f s0) : ∃ A' F', cl mX11_passes [vr 103] (HP A F E) = some (vn, HP A' F' E) ∧ mwf A F A' F' ∧ mw A' F' G Q (psa Q G f) s0 := by
  obtain ⟨A', F', r1, r2, r3⟩ := m_passes (E := E) h.2.1 h.1 h.2.2.1
  exact ⟨A', F', r1, ⟨r2.1, r2.2.1, r2.2.2.1⟩, mw_f h r2 (psa_ok h.2.2.1.2.1 h.1) r3⟩
theorem mw_passN {m : Nat} (hm : m < 100000) (h : mw A F G Q f s0) : ∃ A' F', cl mX11_passesAll [vr 103, vi (m : Int)] (HP A F E) = some (vn, HP A' F' E) ∧ mwf A F A' F' ∧ mw A' F' G Q (psN Q G m f) s0 := by
  obtain ⟨A', F', r1, r2, r3⟩ := m_passN (E := E) hm h.2.1 h.1 h.2.2.1
  exact ⟨A', F', r1, ⟨r2.1, r2.2.1, r2.2.2.1⟩, mw_f h r2 (psN_ok h.2.2.1.2.1 m f h.1) r3⟩
theorem mw_lays (h : mw A F G Q f s0) : cl mX11_laysBack [vr 103] (HP A F E) = some (vn, HP (aup A 113 s0) F E) := by
  obtain ⟨W, w1, w2⟩ := m_lays (E := E) (A := A) (F := F)
  have e : W = s0 := by
    funext j
    rw [w2]
    split
    · rename_i q
      rw [h.2.2.2.1 (j - 10) (by omega), show 10 + (j - 10) = j by omega]
    · rename_i q
      exact h.2.2.2.2 j (by omega)
  rw [w1, e]
/-- laid back, the model may walk again from f0 -/
theorem mw_back {f0 : Nat → Int} (h : mw A F G Q f s0) (r : wok f0 G) (sd : sdr s0 f0) : mw (aup A 113 s0) F G Q f0 s0 := ⟨r, by rw [aup_s]; exact sd, mQ_c h.2.2.1 (aup_n (by omega)) (aup_n (by omega)) (aup_n (by omega)) rfl, fun j hj => by rw [aup_n (by omega)]; exact h.2.2.2.1 j hj, fun j hj => by rw [aup_s]⟩
/-- what lies between the class's end and the model's -/
theorem mqf_of {A1 F1 A2 F2 A3 : Nat → Nat → Int} (k : ∀ j, j ≠ 115 → A2 j = A1 j) (m : mwf A2 F1 A3 F2) : mqf A1 F1 (aup A3 113 (A1 113)) F2 := by
  refine ⟨fun j a b c => ?_, m.2.1, fun i a _ _ _ _ => m.2.2 i a⟩
  by_cases q : j = 113
  · rw [q, aup_s]
  · rw [aup_n q, m.1 j a b q, k j (by omega)]
end CW
