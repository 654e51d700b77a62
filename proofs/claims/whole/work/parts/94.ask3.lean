/-! leastFood -/
def frF (P : Nat → Bool) : Nat → Nat → Int
  | 0, _ => -2
  | n + 1, k => if P k then (k : Int) else frF P n (k + 1)
section A3
variable {A F : Nat → Nat → Int} {E : zE} {G b p : Nat} {Q : (Int → Int) → Int} {f s0 : Nat → Int}
theorem ps1_oth {k j : Nat} (h : j < 47 + 7 * k ∨ 54 + 7 * k ≤ j) : ps1 Q G k f j = f j := by
  unfold ps1 wgo wbo wci
  split
  · split
    · rw [fup_n (by omega), fup_n (by omega), fup_n (by omega), fup_n (by omega), fup_n (by omega), fup_n (by omega)]
    · split
      · rw [fup_n (by omega)]
      · rw [fup_n (by omega), fup_n (by omega)]
  · split
    · split
      · rw [fup_n (by omega), fup_n (by omega)]
      · split
        · rw [fup_n (by omega), fup_n (by omega)]
        · split
          · rw [fup_n (by omega)]
          · rw [fup_n (by omega), fup_n (by omega), fup_n (by omega), fup_n (by omega)]
    · rfl
/-- one who is lost stays so, all of him -/
theorem psR_lost {j : Nat} (hj : 47 + 7 * p ≤ j ∧ j < 54 + 7 * p) : ∀ (n k : Nat) (f : Nat → Int), f (50 + 7 * p) = 2 → psR Q G n k f j = f j
  | 0, _, _, _ => rfl
  | n + 1, k, f, h => by
    rw [psR]
    by_cases q : k = p
    · have hk : f (50 + 7 * k) = 2 := by rw [q]; exact h
      have e : ps1 Q G k f = f := by unfold ps1; rw [if_neg (by omega), if_neg (by omega)]
      rw [e]
      exact psR_lost hj n (k + 1) f h
    · rw [psR_lost hj n (k + 1) _ (by rw [ps1_oth (by omega)]; exact h), ps1_oth (by omega)]
theorem psa_lost {j : Nat} (hj : 47 + 7 * p ≤ j ∧ j < 54 + 7 * p) (h : f (50 + 7 * p) = 2) : psa Q G f j = f j := by
  unfold psa
  rw [fup_n (by omega), psR_lost hj _ _ _ h]
theorem psN_lost {j : Nat} (hj : 47 + 7 * p ≤ j ∧ j < 54 + 7 * p) : ∀ (n : Nat) (f : Nat → Int), f (50 + 7 * p) = 2 → psN Q G n f j = f j
  | 0, _, _ => rfl
  | n + 1, f, h => by
    rw [psN, psN_lost hj n _ (by rw [psa_lost (by omega) h]; exact h), psa_lost hj h]
theorem c_restart' {A1 F1 : Nat → Nat → Int} (h : inv A F E) (r : SR1 G (A 13) (A 11) (A 17) (A 18) (A 19) (F 16 3) (A 113)) (q : cR A E b Q) (c : cfr A F A1 F1) (k : cn 82 (A1 15)) : ∃ A' F', cl mX10_restart [vr 1] (HP A1 F1 E) = some (vn, HP A' F' E) ∧ A' 15 = A 13 ∧ cfr A F A' F' ∧ cw A' F' E G Q b ∧ F' 14 1 = -1 ∧ (∀ j, j ≠ 15 → A' j = A1 j) ∧ ∀ j, j ≠ 14 → F' j = F1 j := by
  have hW := h.2.2.1
  have e := cfr_13 c
  have c1 := E_restart (A := A1) (F := F1) (E := E) (by rw [e]; exact hW.1 12 wad_12) k
  rw [e] at c1
  refine ⟨_, _, c1, aup_s, cfr_t c ⟨fun j j1 _ _ _ _ => aup_n j1, fun j j1 _ => aup_n j1⟩, ⟨by rw [aup_s]; exact r.1, by rw [aup_s]; exact hW.1 12 wad_12, cR_f q (fun j j1 j2 => ?_)⟩, by rw [aup_s, fup_s], fun j hj => aup_n hj, fun j hj => aup_n hj⟩
  rw [aup_n (by omega)]
  exact c.1 j (by omega) (by omega) (by omega) (by omega) j2
theorem mw_set {f' s' : Nat → Int} (h : mw A F G Q f s0) (r : wok f' G) (sd : sdr s' f') (k : ∀ j, (j < 10 ∨ 86 ≤ j) → s' j = A 113 j) : mw (aup A 113 s') F G Q f' s0 := ⟨r, by rw [aup_s]; exact sd, mQ_c h.2.2.1 (aup_n (by omega)) (aup_n (by omega)) (aup_n (by omega)) rfl, fun j hj => by rw [aup_n (by omega)]; exact h.2.2.2.1 j hj, fun j hj => by rw [aup_s, k j hj]; exact h.2.2.2.2 j hj⟩
theorem wok_food {v : Int} (h : wok f G) (hp : p < G) (hv : 0 ≤ v ∧ v ≤ 99) : wok (fup f (49 + 7 * p) v) G := by
  refine wok_at h hp (fun j hj => fup_n (by omega)) ?_
  have gk := h.2.2.2.2.2.2 p hp
  unfold gok at gk ⊢
  simp (disch := omega) only [fup_s, fup_n]
  exact ⟨gk.1, hv, gk.2.2⟩
theorem sdr_food {s : Nat → Int} {v : Int} (h : sdr s f) (hp : p < 5) : sdr (fup s (13 + 7 * p) v) (fup f (49 + 7 * p) v) := by
  have sg := sd_g h hp
  refine sdr_at (g := p) h hp (fun j hj => fup_n (by omega)) (fun j hj => fup_n (by omega)) ?_
  simp (disch := omega) only [fup_s, fup_n]
  exact ⟨sg.1, by trivial, sg.2.2⟩
theorem c_lf_in {A0 F0 : Nat → Nat → Int} {m : Nat} {fd : Int} (h0 : inv A0 F0 E) (hp : p ≤ 4) (hm : m < 100000) : ∀ (n k : Nat) (A F : Nat → Nat → Int), k + n = m → cfr A0 F0 A F → cw A F E G Q (rad (F0 1 5)) → ∃ A' F' k', rn mX10_leastFood 45 [vr 1, vi (p : Int), vi (m : Int), vi fd, vi (k : Int)] [] (HP A F E) = rn mX10_leastFood 81 [vr 1, vi (p : Int), vi (m : Int), vi fd, vi k'] [] (HP A' F' E) ∧ A' 15 (50 + 7 * p) = psN Q G n (A 15) (50 + 7 * p) ∧ cfr A0 F0 A' F' ∧ cw A' F' E G Q (rad (F0 1 5)) := by
  intro n
  induction n with
  | zero =>
    intro k A F hk c h
    have : k = m := by omega
    subst this
    refine ⟨A, F, (k : Int), ?_, rfl, c, h⟩
    rw [sX10_leastFood_45]
    simp (disch := omega) only [eX10_leastFood, sX10_leastFood_0, sX10_leastFood_1, sX10_leastFood_2, sX10_leastFood_5, sX10_leastFood_8, sX10_leastFood_9, sX10_leastFood_10, sX10_leastFood_12, sX10_leastFood_15, sX10_leastFood_18, sX10_leastFood_19, sX10_leastFood_20, sX10_leastFood_21, sX10_leastFood_23, sX10_leastFood_25, sX10_leastFood_28, sX10_leastFood_29, sX10_leastFood_32, sX10_leastFood_33, sX10_leastFood_36, sX10_leastFood_37, sX10_leastFood_38, sX10_leastFood_39, sX10_leastFood_42, sX10_leastFood_43, sX10_leastFood_47, sX10_leastFood_48, sX10_leastFood_51, sX10_leastFood_52, sX10_leastFood_55, sX10_leastFood_56, sX10_leastFood_57, sX10_leastFood_60, sX10_leastFood_61, sX10_leastFood_64, sX10_leastFood_65, sX10_leastFood_68, sX10_leastFood_69, sX10_leastFood_72, sX10_leastFood_75, sX10_leastFood_78, sX10_leastFood_82, sX10_leastFood_85, sX10_leastFood_86, sX10_leastFood_87, sX10_leastFood_90, sX10_leastFood_91, sX10_leastFood_94, sX10_leastFood_95, sX10_leastFood_96, sX10_leastFood_99, sX10_leastFood_102, sX10_leastFood_104, ↓if_pos]
  | succ n ih =>
    intro k A F hk c h
    have st := c_of3 (A := A) (F := F) (E := E) hp
    by_cases z : A 15 (50 + 7 * p) = 2
    · refine ⟨A, F, (k : Int), ?_, by rw [psN_lost (by omega) _ _ z], c, h⟩
      rw [sX10_leastFood_45]
      simp (disch := omega) only [eX10_leastFood, sX10_leastFood_0, sX10_leastFood_1, sX10_leastFood_2, sX10_leastFood_5, sX10_leastFood_8, sX10_leastFood_9, sX10_leastFood_10, sX10_leastFood_12, sX10_leastFood_15, sX10_leastFood_18, sX10_leastFood_19, sX10_leastFood_20, sX10_leastFood_21, sX10_leastFood_23, sX10_leastFood_25, sX10_leastFood_28, sX10_leastFood_29, sX10_leastFood_32, sX10_leastFood_33, sX10_leastFood_36, sX10_leastFood_37, sX10_leastFood_38, sX10_leastFood_39, sX10_leastFood_42, sX10_leastFood_43, sX10_leastFood_47, sX10_leastFood_48, sX10_leastFood_51, sX10_leastFood_52, sX10_leastFood_55, sX10_leastFood_56, sX10_leastFood_57, sX10_leastFood_60, sX10_leastFood_61, sX10_leastFood_64, sX10_leastFood_65, sX10_leastFood_68, sX10_leastFood_69, sX10_leastFood_72, sX10_leastFood_75, sX10_leastFood_78, sX10_leastFood_82, sX10_leastFood_85, sX10_leastFood_86, sX10_leastFood_87, sX10_leastFood_90, sX10_leastFood_91, sX10_leastFood_94, sX10_leastFood_95, sX10_leastFood_96, sX10_leastFood_99, sX10_leastFood_102, sX10_leastFood_104, ↓hf1_9, ↓hk14, ↓bndi_at st, ↓if_pos, ↓if_neg]
    · obtain ⟨A1, F1, p1, p2, p3, p4, _⟩ := c_pass h
      obtain ⟨A2, F2, k', t1, t2, t3, t4⟩ := ih (k + 1) A1 F1 (by omega) (cfr_t c p3) p4
      refine ⟨A2, F2, k', ?_, by rw [t2, p2, psN], t3, t4⟩
      rw [← t1, sX10_leastFood_45]
      simp (disch := omega) only [eX10_leastFood, sX10_leastFood_0, sX10_leastFood_1, sX10_leastFood_2, sX10_leastFood_5, sX10_leastFood_8, sX10_leastFood_9, sX10_leastFood_10, sX10_leastFood_12, sX10_leastFood_15, sX10_leastFood_18, sX10_leastFood_19, sX10_leastFood_20, sX10_leastFood_21, sX10_leastFood_23, sX10_leastFood_25, sX10_leastFood_28, sX10_leastFood_29, sX10_leastFood_32, sX10_leastFood_33, sX10_leastFood_36, sX10_leastFood_37, sX10_leastFood_38, sX10_leastFood_39, sX10_leastFood_42, sX10_leastFood_43, sX10_leastFood_47, sX10_leastFood_48, sX10_leastFood_51, sX10_leastFood_52, sX10_leastFood_55, sX10_leastFood_56, sX10_leastFood_57, sX10_leastFood_60, sX10_leastFood_61, sX10_leastFood_64, sX10_leastFood_65, sX10_leastFood_68, sX10_leastFood_69, sX10_leastFood_72, sX10_leastFood_75, sX10_leastFood_78, sX10_leastFood_82, sX10_leastFood_85, sX10_leastFood_86, sX10_leastFood_87, sX10_leastFood_90, sX10_leastFood_91, sX10_leastFood_94, sX10_leastFood_95, sX10_leastFood_96, sX10_leastFood_99, sX10_leastFood_102, sX10_leastFood_104, ↓hk1, ↓hf1_9, ↓hk14, ↓bndi_at st, ↓bndr_at (c_force h0 c), ↓bndv_at p1, ↓if_neg, ↓if_pos, i32_s]
def lfP (Q : (Int → Int) → Int) (G p m : Nat) (f : Nat → Int) (k : Nat) : Bool := decide (¬ psN Q G m (fup f (49 + 7 * p) (k : Int)) (50 + 7 * p) = 2)
theorem c_lf_l {A0 F0 : Nat → Nat → Int} {m : Nat} (h0 : inv A0 F0 E) (r : SR1 G (A0 13) (A0 11) (A0 17) (A0 18) (A0 19) (F0 16 3) (A0 113)) (q : cR A0 E (rad (F0 1 5)) Q) (hp : p < G) (hm : m < 100000) : ∀ (n k : Nat) (A F : Nat → Nat → Int) (x4 : zV), k + n = 61 → cfr A0 F0 A F → cn 82 (A 15) → ∃ A' F', rn mX10_leastFood 22 [vr 1, vi (p : Int), vi (m : Int), vi (k : Int), x4] [] (HP A F E) = some (vi (frF (lfP Q G p m (A0 13)) n k), HP A' F' E) ∧ cfr A0 F0 A' F' ∧ cn 82 (A' 15) := by
  have hG5 := r.1.2.1
  intro n
  induction n with
  | zero =>
    intro k A F x4 hk c h
    have : k = 61 := by omega
    subst this
    refine ⟨A, F, ?_, c, h⟩
    rw [sX10_leastFood_22]
    simp (disch := omega) only [eX10_leastFood, sX10_leastFood_0, sX10_leastFood_1, sX10_leastFood_2, sX10_leastFood_5, sX10_leastFood_8, sX10_leastFood_9, sX10_leastFood_10, sX10_leastFood_12, sX10_leastFood_15, sX10_leastFood_18, sX10_leastFood_19, sX10_leastFood_20, sX10_leastFood_21, sX10_leastFood_23, sX10_leastFood_25, sX10_leastFood_28, sX10_leastFood_29, sX10_leastFood_32, sX10_leastFood_33, sX10_leastFood_36, sX10_leastFood_37, sX10_leastFood_38, sX10_leastFood_39, sX10_leastFood_42, sX10_leastFood_43, sX10_leastFood_47, sX10_leastFood_48, sX10_leastFood_51, sX10_leastFood_52, sX10_leastFood_55, sX10_leastFood_56, sX10_leastFood_57, sX10_leastFood_60, sX10_leastFood_61, sX10_leastFood_64, sX10_leastFood_65, sX10_leastFood_68, sX10_leastFood_69, sX10_leastFood_72, sX10_leastFood_75, sX10_leastFood_78, sX10_leastFood_81, sX10_leastFood_82, sX10_leastFood_85, sX10_leastFood_86, sX10_leastFood_87, sX10_leastFood_90, sX10_leastFood_91, sX10_leastFood_94, sX10_leastFood_95, sX10_leastFood_96, sX10_leastFood_99, sX10_leastFood_102, sX10_leastFood_104, frF, ↓if_pos]
  | succ n ih =>
    intro k A F x4 hk c h
    obtain ⟨A1, F1, s1, s2, s3, s4, _⟩ := c_restart' h0 r q c h
    have pt : cl mX9_put [vr 14, vi (p : Int), vi 2, vi (k : Int)] (HP A1 F1 E) = some (vn, HP (aup A1 15 (fup (A0 13) (49 + 7 * p) (k : Int))) F1 E) := by
      have := h_put (A := A1) (F := F1) (E := E) (g := (p : Int)) (p := 2) (v := (k : Int)) wad_14 (by omega) (by omega) (by omega) (by omega)
      rw [show (47 + 7 * (p : Int) + 2).toNat = 49 + 7 * p by omega] at this
      rw [this, ← s2]
    have c2 : cfr A0 F0 (aup A1 15 (fup (A0 13) (49 + 7 * p) (k : Int))) F1 := cfr_t s3 ⟨fun j j1 _ _ _ _ => aup_n j1, fun _ _ _ => rfl⟩
    have w2 : cw (aup A1 15 (fup (A0 13) (49 + 7 * p) (k : Int))) F1 E G Q (rad (F0 1 5)) := ⟨by rw [aup_s]; exact wok_food r.1 hp (by omega), by rw [aup_s]; exact cn_up (h0.2.2.1.1 12 wad_12) (by omega), cR_f s4.2.2 (fun j j1 _ => aup_n (by omega))⟩
    obtain ⟨A2, F2, k', t1, t2, t3, t4⟩ := c_lf_in (p := p) (m := m) (fd := (k : Int)) h0 (by omega) hm m 0 _ _ (by omega) c2 w2
    rw [aup_s] at t2
    have t1' : rn mX10_leastFood 45 [vr 1, vi (p : Int), vi (m : Int), vi (k : Int), vi 0] [] (HP (aup A1 15 (fup (A0 13) (49 + 7 * p) (k : Int))) F1 E) = _ := t1
    have st := c_of3 (A := A2) (F := F2) (E := E) (p := p) (by omega)
    rw [t2] at st
    by_cases z : psN Q G m (fup (A0 13) (49 + 7 * p) (k : Int)) (50 + 7 * p) = 2
    · obtain ⟨A3, F3, u1, u2, u3⟩ := ih (k + 1) A2 F2 (vi k') (by omega) t3 t4.2.1
      refine ⟨A3, F3, ?_, u2, u3⟩
      have zz : ¬ (lfP Q G p m (A0 13) k = true) := fun y => (of_decide_eq_true y) z
      rw [frF, if_neg zz, ← u1, sX10_leastFood_22]
      simp (disch := omega) only [eX10_leastFood, sX10_leastFood_0, sX10_leastFood_1, sX10_leastFood_2, sX10_leastFood_5, sX10_leastFood_8, sX10_leastFood_9, sX10_leastFood_10, sX10_leastFood_12, sX10_leastFood_15, sX10_leastFood_18, sX10_leastFood_19, sX10_leastFood_20, sX10_leastFood_21, sX10_leastFood_23, sX10_leastFood_25, sX10_leastFood_28, sX10_leastFood_29, sX10_leastFood_32, sX10_leastFood_33, sX10_leastFood_36, sX10_leastFood_37, sX10_leastFood_38, sX10_leastFood_39, sX10_leastFood_42, sX10_leastFood_43, sX10_leastFood_47, sX10_leastFood_48, sX10_leastFood_51, sX10_leastFood_52, sX10_leastFood_55, sX10_leastFood_56, sX10_leastFood_57, sX10_leastFood_60, sX10_leastFood_61, sX10_leastFood_64, sX10_leastFood_65, sX10_leastFood_68, sX10_leastFood_69, sX10_leastFood_72, sX10_leastFood_75, sX10_leastFood_78, sX10_leastFood_82, sX10_leastFood_85, sX10_leastFood_86, sX10_leastFood_87, sX10_leastFood_90, sX10_leastFood_91, sX10_leastFood_94, sX10_leastFood_95, sX10_leastFood_96, sX10_leastFood_99, sX10_leastFood_102, sX10_leastFood_104, ↓hk1, ↓hf1_9, ↓hk14, ↓bndv_at s1, ↓bndv_at pt, ↓if_neg, ↓if_pos]
      rw [t1']
      simp (disch := omega) only [eX10_leastFood, sX10_leastFood_0, sX10_leastFood_1, sX10_leastFood_2, sX10_leastFood_5, sX10_leastFood_8, sX10_leastFood_9, sX10_leastFood_10, sX10_leastFood_12, sX10_leastFood_15, sX10_leastFood_18, sX10_leastFood_19, sX10_leastFood_20, sX10_leastFood_21, sX10_leastFood_23, sX10_leastFood_25, sX10_leastFood_28, sX10_leastFood_29, sX10_leastFood_32, sX10_leastFood_33, sX10_leastFood_36, sX10_leastFood_37, sX10_leastFood_38, sX10_leastFood_39, sX10_leastFood_42, sX10_leastFood_43, sX10_leastFood_47, sX10_leastFood_48, sX10_leastFood_51, sX10_leastFood_52, sX10_leastFood_55, sX10_leastFood_56, sX10_leastFood_57, sX10_leastFood_60, sX10_leastFood_61, sX10_leastFood_64, sX10_leastFood_65, sX10_leastFood_68, sX10_leastFood_69, sX10_leastFood_72, sX10_leastFood_75, sX10_leastFood_78, sX10_leastFood_81, sX10_leastFood_82, sX10_leastFood_85, sX10_leastFood_86, sX10_leastFood_87, sX10_leastFood_90, sX10_leastFood_91, sX10_leastFood_94, sX10_leastFood_95, sX10_leastFood_96, sX10_leastFood_99, sX10_leastFood_102, sX10_leastFood_104, ↓hf1_9, ↓hk14, ↓bndi_at st, z, ↓if_neg, ↓if_pos, i32_s]
    · refine ⟨A2, F2, ?_, t3, t4.2.1⟩
      have zz : lfP Q G p m (A0 13) k = true := decide_eq_true z
      rw [frF, if_pos zz, sX10_leastFood_22]
      simp (disch := omega) only [eX10_leastFood, sX10_leastFood_0, sX10_leastFood_1, sX10_leastFood_2, sX10_leastFood_5, sX10_leastFood_8, sX10_leastFood_9, sX10_leastFood_10, sX10_leastFood_12, sX10_leastFood_15, sX10_leastFood_18, sX10_leastFood_19, sX10_leastFood_20, sX10_leastFood_21, sX10_leastFood_23, sX10_leastFood_25, sX10_leastFood_28, sX10_leastFood_29, sX10_leastFood_32, sX10_leastFood_33, sX10_leastFood_36, sX10_leastFood_37, sX10_leastFood_38, sX10_leastFood_39, sX10_leastFood_42, sX10_leastFood_43, sX10_leastFood_47, sX10_leastFood_48, sX10_leastFood_51, sX10_leastFood_52, sX10_leastFood_55, sX10_leastFood_56, sX10_leastFood_57, sX10_leastFood_60, sX10_leastFood_61, sX10_leastFood_64, sX10_leastFood_65, sX10_leastFood_68, sX10_leastFood_69, sX10_leastFood_72, sX10_leastFood_75, sX10_leastFood_78, sX10_leastFood_82, sX10_leastFood_85, sX10_leastFood_86, sX10_leastFood_87, sX10_leastFood_90, sX10_leastFood_91, sX10_leastFood_94, sX10_leastFood_95, sX10_leastFood_96, sX10_leastFood_99, sX10_leastFood_102, sX10_leastFood_104, ↓hk1, ↓hf1_9, ↓hk14, ↓bndv_at s1, ↓bndv_at pt, ↓if_neg, ↓if_pos]
      rw [t1']
      simp (disch := omega) only [eX10_leastFood, sX10_leastFood_0, sX10_leastFood_1, sX10_leastFood_2, sX10_leastFood_5, sX10_leastFood_8, sX10_leastFood_9, sX10_leastFood_10, sX10_leastFood_12, sX10_leastFood_15, sX10_leastFood_18, sX10_leastFood_19, sX10_leastFood_20, sX10_leastFood_21, sX10_leastFood_23, sX10_leastFood_25, sX10_leastFood_28, sX10_leastFood_29, sX10_leastFood_32, sX10_leastFood_33, sX10_leastFood_36, sX10_leastFood_37, sX10_leastFood_38, sX10_leastFood_39, sX10_leastFood_42, sX10_leastFood_43, sX10_leastFood_47, sX10_leastFood_48, sX10_leastFood_51, sX10_leastFood_52, sX10_leastFood_55, sX10_leastFood_56, sX10_leastFood_57, sX10_leastFood_60, sX10_leastFood_61, sX10_leastFood_64, sX10_leastFood_65, sX10_leastFood_68, sX10_leastFood_69, sX10_leastFood_72, sX10_leastFood_75, sX10_leastFood_78, sX10_leastFood_81, sX10_leastFood_82, sX10_leastFood_85, sX10_leastFood_86, sX10_leastFood_87, sX10_leastFood_90, sX10_leastFood_91, sX10_leastFood_94, sX10_leastFood_95, sX10_leastFood_96, sX10_leastFood_99, sX10_leastFood_102, sX10_leastFood_104, ↓hf1_9, ↓hk14, ↓bndi_at st, z, ↓if_neg, ↓if_pos, if_false]
theorem m_lf_l {m : Nat} (hp : p < G) (hm : m < 100000) : ∀ (n k : Nat) (A F : Nat → Nat → Int), k + n = 61 → mw A F G Q f s0 → A 113 = s0 → ∃ A' F', rn mX11_leastFood 32 [vr 103, vi (p : Int), vi (m : Int), vi (-2), vi (k : Int)] [] (HP A F E) = some (vi (frF (lfP Q G p m f) n k), HP A' F' E) ∧ mwf A F A' F' ∧ A' 113 = s0 := by
  intro n
  induction n with
  | zero =>
    intro k A F hk h hs
    have : k = 61 := by omega
    subst this
    refine ⟨A, F, ?_, mwf_r, hs⟩
    rw [sX11_leastFood_32]
    simp (disch := omega) only [eX11_leastFood, sX11_leastFood_0, sX11_leastFood_1, sX11_leastFood_2, sX11_leastFood_5, sX11_leastFood_8, sX11_leastFood_9, sX11_leastFood_10, sX11_leastFood_11, sX11_leastFood_14, sX11_leastFood_17, sX11_leastFood_20, sX11_leastFood_21, sX11_leastFood_22, sX11_leastFood_24, sX11_leastFood_25, sX11_leastFood_26, sX11_leastFood_29, sX11_leastFood_30, sX11_leastFood_34, sX11_leastFood_36, sX11_leastFood_39, sX11_leastFood_40, sX11_leastFood_43, sX11_leastFood_44, sX11_leastFood_47, sX11_leastFood_49, sX11_leastFood_51, sX11_leastFood_52, sX11_leastFood_53, sX11_leastFood_54, sX11_leastFood_55, sX11_leastFood_56, sX11_leastFood_58, sX11_leastFood_59, sX11_leastFood_60, sX11_leastFood_61, sX11_leastFood_64, sX11_leastFood_65, sX11_leastFood_66, sX11_leastFood_69, sX11_leastFood_70, sX11_leastFood_73, sX11_leastFood_75, sX11_leastFood_76, sX11_leastFood_77, sX11_leastFood_80, sX11_leastFood_83, sX11_leastFood_86, sX11_leastFood_87, frF, ↓if_pos]
  | succ n ih =>
    intro k A F hk h hs
    have hG5 := h.1.2.1
    have h1 := mw_set (f' := fup f (49 + 7 * p) (k : Int)) (s' := fup (A 113) (13 + 7 * p) (k : Int)) h (wok_food h.1 hp (by omega)) (sdr_food h.2.1 (by omega)) (fun j hj => fup_n (by omega))
    obtain ⟨A1, F1, p1, p2, p3⟩ := mw_passN (m := m) (E := E) hm h1
    have st := mw_status (p := p) (E := E) p3 (by omega)
    have lb := mw_lays (E := E) p3
    have h2 := mw_back p3 h.1 (by rw [← hs]; exact h.2.1)
    have fr : mwf A F (aup A1 113 s0) F1 := ⟨fun j a b c => by rw [aup_n c, p2.1 j a b c, aup_n c], p2.2.1, p2.2.2⟩
    have x2 : (11 + 7 * (p : Int) + 2).toNat = 13 + 7 * p := by omega
    by_cases z : psN Q G m (fup f (49 + 7 * p) (k : Int)) (50 + 7 * p) = 2
    · obtain ⟨A3, F3, u1, u2, u3⟩ := ih (k + 1) _ _ (by omega) h2 aup_s
      refine ⟨A3, F3, ?_, mwf_t fr u2, u3⟩
      have zz : ¬ (lfP Q G p m f k = true) := fun y => (of_decide_eq_true y) z
      rw [frF, if_neg zz, ← u1, sX11_leastFood_32]
      simp (disch := omega) only [eX11_leastFood, sX11_leastFood_0, sX11_leastFood_1, sX11_leastFood_2, sX11_leastFood_5, sX11_leastFood_8, sX11_leastFood_9, sX11_leastFood_10, sX11_leastFood_11, sX11_leastFood_14, sX11_leastFood_17, sX11_leastFood_20, sX11_leastFood_21, sX11_leastFood_22, sX11_leastFood_24, sX11_leastFood_25, sX11_leastFood_26, sX11_leastFood_29, sX11_leastFood_30, sX11_leastFood_34, sX11_leastFood_36, sX11_leastFood_39, sX11_leastFood_40, sX11_leastFood_43, sX11_leastFood_44, sX11_leastFood_47, sX11_leastFood_49, sX11_leastFood_51, sX11_leastFood_52, sX11_leastFood_53, sX11_leastFood_54, sX11_leastFood_55, sX11_leastFood_56, sX11_leastFood_58, sX11_leastFood_59, sX11_leastFood_60, sX11_leastFood_61, sX11_leastFood_64, sX11_leastFood_65, sX11_leastFood_66, sX11_leastFood_69, sX11_leastFood_70, sX11_leastFood_73, sX11_leastFood_75, sX11_leastFood_76, sX11_leastFood_77, sX11_leastFood_80, sX11_leastFood_83, sX11_leastFood_86, sX11_leastFood_87, ↓hk103, ↓hf103_20, ↓hs113, i32_of, x2, ↓bndv_at p1, ↓bndi_at st, z, ↓bndv_at lb, ↓if_neg, ↓if_pos, Int.toNat_natCast]
      rfl
    · refine ⟨_, _, ?_, fr, aup_s⟩
      have zz : lfP Q G p m f k = true := decide_eq_true z
      rw [frF, if_pos zz, sX11_leastFood_32]
      simp (disch := omega) only [eX11_leastFood, sX11_leastFood_0, sX11_leastFood_1, sX11_leastFood_2, sX11_leastFood_5, sX11_leastFood_8, sX11_leastFood_9, sX11_leastFood_10, sX11_leastFood_11, sX11_leastFood_14, sX11_leastFood_17, sX11_leastFood_20, sX11_leastFood_21, sX11_leastFood_22, sX11_leastFood_24, sX11_leastFood_25, sX11_leastFood_26, sX11_leastFood_29, sX11_leastFood_30, sX11_leastFood_34, sX11_leastFood_36, sX11_leastFood_39, sX11_leastFood_40, sX11_leastFood_43, sX11_leastFood_44, sX11_leastFood_47, sX11_leastFood_49, sX11_leastFood_51, sX11_leastFood_52, sX11_leastFood_53, sX11_leastFood_54, sX11_leastFood_55, sX11_leastFood_56, sX11_leastFood_58, sX11_leastFood_59, sX11_leastFood_60, sX11_leastFood_61, sX11_leastFood_64, sX11_leastFood_65, sX11_leastFood_66, sX11_leastFood_69, sX11_leastFood_70, sX11_leastFood_73, sX11_leastFood_75, sX11_leastFood_76, sX11_leastFood_77, sX11_leastFood_80, sX11_leastFood_83, sX11_leastFood_86, sX11_leastFood_87, ↓hk103, ↓hf103_20, ↓hs113, i32_of, x2, ↓bndv_at p1, ↓bndi_at st, z, ↓bndv_at lb, ↓if_neg, ↓if_pos, Int.toNat_natCast, if_false]
      rw [sX11_leastFood_32]
      by_cases y : (k : Int) + 1 ≤ 60
      · simp (disch := omega) only [eX11_leastFood, sX11_leastFood_0, sX11_leastFood_1, sX11_leastFood_2, sX11_leastFood_5, sX11_leastFood_8, sX11_leastFood_9, sX11_leastFood_10, sX11_leastFood_11, sX11_leastFood_14, sX11_leastFood_17, sX11_leastFood_20, sX11_leastFood_21, sX11_leastFood_22, sX11_leastFood_24, sX11_leastFood_25, sX11_leastFood_26, sX11_leastFood_29, sX11_leastFood_30, sX11_leastFood_34, sX11_leastFood_36, sX11_leastFood_39, sX11_leastFood_40, sX11_leastFood_43, sX11_leastFood_44, sX11_leastFood_47, sX11_leastFood_49, sX11_leastFood_51, sX11_leastFood_52, sX11_leastFood_53, sX11_leastFood_54, sX11_leastFood_55, sX11_leastFood_56, sX11_leastFood_58, sX11_leastFood_59, sX11_leastFood_60, sX11_leastFood_61, sX11_leastFood_64, sX11_leastFood_65, sX11_leastFood_66, sX11_leastFood_69, sX11_leastFood_70, sX11_leastFood_73, sX11_leastFood_75, sX11_leastFood_76, sX11_leastFood_77, sX11_leastFood_80, sX11_leastFood_83, sX11_leastFood_86, sX11_leastFood_87, ↓if_neg, ↓if_pos]
      · simp (disch := omega) only [eX11_leastFood, sX11_leastFood_0, sX11_leastFood_1, sX11_leastFood_2, sX11_leastFood_5, sX11_leastFood_8, sX11_leastFood_9, sX11_leastFood_10, sX11_leastFood_11, sX11_leastFood_14, sX11_leastFood_17, sX11_leastFood_20, sX11_leastFood_21, sX11_leastFood_22, sX11_leastFood_24, sX11_leastFood_25, sX11_leastFood_26, sX11_leastFood_29, sX11_leastFood_30, sX11_leastFood_34, sX11_leastFood_36, sX11_leastFood_39, sX11_leastFood_40, sX11_leastFood_43, sX11_leastFood_44, sX11_leastFood_47, sX11_leastFood_49, sX11_leastFood_51, sX11_leastFood_52, sX11_leastFood_53, sX11_leastFood_54, sX11_leastFood_55, sX11_leastFood_56, sX11_leastFood_58, sX11_leastFood_59, sX11_leastFood_60, sX11_leastFood_61, sX11_leastFood_64, sX11_leastFood_65, sX11_leastFood_66, sX11_leastFood_69, sX11_leastFood_70, sX11_leastFood_73, sX11_leastFood_75, sX11_leastFood_76, sX11_leastFood_77, sX11_leastFood_80, sX11_leastFood_83, sX11_leastFood_86, sX11_leastFood_87, ↓if_neg, ↓if_pos]
theorem k_leastFood {g n : Int} (h : inv A F E) : prs mX10_leastFood mX11_leastFood [vi g, vi n] A F E := by
  have b := iS_b h.2.2.2.1
  have ig := E_isGoer (A := A) (F := F) (E := E) (g := g) b.2.1.1 b.2.1.2
  have mg := fun A1 F1 => m_isGoer (A := A1) (F := F1) (E := E) (g := g)
  have wi := E_within (v := n) (lo := 1) (hi := 100) (h := HP A F E)
  have mi := fun H => m_in (v := n) (lo := 1) (hi := 100) (h := H)
  by_cases z : 0 ≤ g ∧ g < A 13 1
  · rw [if_pos z] at ig
    by_cases z1 : 1 ≤ n ∧ n ≤ 100
    · rw [if_pos z1] at wi
      obtain ⟨G, r⟩ := b.2.2.2.2.2.2.mp (b.2.2.2.2.2.1 (by omega))
      have hG : A 13 1 = (G : Int) := r.1.1
      obtain ⟨Q, q1, q2⟩ := inv_Q h
      obtain ⟨p, rfl⟩ : ∃ p : Nat, g = (p : Int) := ⟨g.toNat, by omega⟩
      obtain ⟨m, rfl⟩ : ∃ m : Nat, n = (m : Int) := ⟨n.toNat, by omega⟩
      obtain ⟨A2, F2, t1, t2, t3⟩ := c_lf_l (p := p) (m := m) h r q1 (by omega) (by omega) 61 0 A F vn (by omega) cfr_r (h.2.2.1.1 14 wad_14)
      have t1' : rn mX10_leastFood 22 [vr 1, vi (p : Int), vi (m : Int), vi 0, vn] [] (HP A F E) = _ := t1
      obtain ⟨A3, k1, k2, k3⟩ := q_start (E := E) r t2 q2
      obtain ⟨A4, F4, l1, l2, l3⟩ := m_lf_l (p := p) (m := m) (E := E) (by omega) (by omega) 61 0 A3 F2 (by omega) k3 (k2 113 (by omega))
      have l1' : rn mX11_leastFood 32 [vr 103, vi (p : Int), vi (m : Int), vi (-2), vi 0] [] (HP A3 F2 E) = _ := l1
      have mg' := mg A2 F2
      rw [cfr_113 t2, b.2.2.2.1, if_pos z] at mg'
      have mi' := mi (HP A2 F2 E)
      rw [if_pos z1] at mi'
      have mq := mqf_of k2 l2
      rw [← l3, aup_id] at mq
      refine prs_q h (v := frF (lfP Q G p m (A 13)) 61 0) ?_ t2 t3 ?_ mq
      · rw [← t1']
        simp (disch := omega) only [eX10_leastFood, sX10_leastFood_0, sX10_leastFood_1, sX10_leastFood_2, sX10_leastFood_5, sX10_leastFood_8, sX10_leastFood_9, sX10_leastFood_10, sX10_leastFood_12, sX10_leastFood_15, sX10_leastFood_18, sX10_leastFood_19, sX10_leastFood_20, sX10_leastFood_21, sX10_leastFood_23, sX10_leastFood_25, sX10_leastFood_28, sX10_leastFood_29, sX10_leastFood_32, sX10_leastFood_33, sX10_leastFood_36, sX10_leastFood_37, sX10_leastFood_38, sX10_leastFood_39, sX10_leastFood_42, sX10_leastFood_43, sX10_leastFood_47, sX10_leastFood_48, sX10_leastFood_51, sX10_leastFood_52, sX10_leastFood_55, sX10_leastFood_56, sX10_leastFood_57, sX10_leastFood_60, sX10_leastFood_61, sX10_leastFood_64, sX10_leastFood_65, sX10_leastFood_68, sX10_leastFood_69, sX10_leastFood_72, sX10_leastFood_75, sX10_leastFood_78, sX10_leastFood_81, sX10_leastFood_82, sX10_leastFood_85, sX10_leastFood_86, sX10_leastFood_87, sX10_leastFood_90, sX10_leastFood_91, sX10_leastFood_94, sX10_leastFood_95, sX10_leastFood_96, sX10_leastFood_99, sX10_leastFood_102, sX10_leastFood_104, ↓hk1, ↓bndi_at ig, ↓bndi_at wi, ↓if_pos, ↓if_neg]
      · rw [← l1']
        simp (disch := omega) only [eX11_leastFood, sX11_leastFood_0, sX11_leastFood_1, sX11_leastFood_2, sX11_leastFood_5, sX11_leastFood_8, sX11_leastFood_9, sX11_leastFood_10, sX11_leastFood_11, sX11_leastFood_14, sX11_leastFood_17, sX11_leastFood_20, sX11_leastFood_21, sX11_leastFood_22, sX11_leastFood_24, sX11_leastFood_25, sX11_leastFood_26, sX11_leastFood_29, sX11_leastFood_30, sX11_leastFood_34, sX11_leastFood_36, sX11_leastFood_39, sX11_leastFood_40, sX11_leastFood_43, sX11_leastFood_44, sX11_leastFood_47, sX11_leastFood_49, sX11_leastFood_51, sX11_leastFood_52, sX11_leastFood_53, sX11_leastFood_54, sX11_leastFood_55, sX11_leastFood_56, sX11_leastFood_58, sX11_leastFood_59, sX11_leastFood_60, sX11_leastFood_61, sX11_leastFood_64, sX11_leastFood_65, sX11_leastFood_66, sX11_leastFood_69, sX11_leastFood_70, sX11_leastFood_73, sX11_leastFood_75, sX11_leastFood_76, sX11_leastFood_77, sX11_leastFood_80, sX11_leastFood_83, sX11_leastFood_86, sX11_leastFood_87, ↓hk103, ↓bndi_at mg', ↓bndi_at mi', ↓bndv_at k1, ↓if_pos, ↓if_neg]
    · have mg' := mg A F
      have mi' := mi (HP A F E)
      rw [if_neg z1] at mi' wi
      rw [b.2.2.2.1, if_pos z] at mg'
      refine prs_0 (v := -1) h ?_ ?_
      · simp (disch := omega) only [eX10_leastFood, sX10_leastFood_0, sX10_leastFood_1, sX10_leastFood_2, sX10_leastFood_5, sX10_leastFood_8, sX10_leastFood_9, sX10_leastFood_10, sX10_leastFood_12, sX10_leastFood_15, sX10_leastFood_18, sX10_leastFood_19, sX10_leastFood_20, sX10_leastFood_21, sX10_leastFood_23, sX10_leastFood_25, sX10_leastFood_28, sX10_leastFood_29, sX10_leastFood_32, sX10_leastFood_33, sX10_leastFood_36, sX10_leastFood_37, sX10_leastFood_38, sX10_leastFood_39, sX10_leastFood_42, sX10_leastFood_43, sX10_leastFood_47, sX10_leastFood_48, sX10_leastFood_51, sX10_leastFood_52, sX10_leastFood_55, sX10_leastFood_56, sX10_leastFood_57, sX10_leastFood_60, sX10_leastFood_61, sX10_leastFood_64, sX10_leastFood_65, sX10_leastFood_68, sX10_leastFood_69, sX10_leastFood_72, sX10_leastFood_75, sX10_leastFood_78, sX10_leastFood_81, sX10_leastFood_82, sX10_leastFood_85, sX10_leastFood_86, sX10_leastFood_87, sX10_leastFood_90, sX10_leastFood_91, sX10_leastFood_94, sX10_leastFood_95, sX10_leastFood_96, sX10_leastFood_99, sX10_leastFood_102, sX10_leastFood_104, ↓hk1, ↓bndi_at ig, ↓bndi_at wi, ↓if_pos, ↓if_neg]
      · simp (disch := omega) only [eX11_leastFood, sX11_leastFood_0, sX11_leastFood_1, sX11_leastFood_2, sX11_leastFood_5, sX11_leastFood_8, sX11_leastFood_9, sX11_leastFood_10, sX11_leastFood_11, sX11_leastFood_14, sX11_leastFood_17, sX11_leastFood_20, sX11_leastFood_21, sX11_leastFood_22, sX11_leastFood_24, sX11_leastFood_25, sX11_leastFood_26, sX11_leastFood_29, sX11_leastFood_30, sX11_leastFood_34, sX11_leastFood_36, sX11_leastFood_39, sX11_leastFood_40, sX11_leastFood_43, sX11_leastFood_44, sX11_leastFood_47, sX11_leastFood_49, sX11_leastFood_51, sX11_leastFood_52, sX11_leastFood_53, sX11_leastFood_54, sX11_leastFood_55, sX11_leastFood_56, sX11_leastFood_58, sX11_leastFood_59, sX11_leastFood_60, sX11_leastFood_61, sX11_leastFood_64, sX11_leastFood_65, sX11_leastFood_66, sX11_leastFood_69, sX11_leastFood_70, sX11_leastFood_73, sX11_leastFood_75, sX11_leastFood_76, sX11_leastFood_77, sX11_leastFood_80, sX11_leastFood_83, sX11_leastFood_86, sX11_leastFood_87, ↓hk103, ↓bndi_at mg', ↓bndi_at mi', ↓if_pos, ↓if_neg]
  · have mg' := mg A F
    rw [b.2.2.2.1, if_neg z] at mg'
    rw [if_neg z] at ig
    refine prs_0 (v := -1) h ?_ ?_
    · simp (disch := omega) only [eX10_leastFood, sX10_leastFood_0, sX10_leastFood_1, sX10_leastFood_2, sX10_leastFood_5, sX10_leastFood_8, sX10_leastFood_9, sX10_leastFood_10, sX10_leastFood_12, sX10_leastFood_15, sX10_leastFood_18, sX10_leastFood_19, sX10_leastFood_20, sX10_leastFood_21, sX10_leastFood_23, sX10_leastFood_25, sX10_leastFood_28, sX10_leastFood_29, sX10_leastFood_32, sX10_leastFood_33, sX10_leastFood_36, sX10_leastFood_37, sX10_leastFood_38, sX10_leastFood_39, sX10_leastFood_42, sX10_leastFood_43, sX10_leastFood_47, sX10_leastFood_48, sX10_leastFood_51, sX10_leastFood_52, sX10_leastFood_55, sX10_leastFood_56, sX10_leastFood_57, sX10_leastFood_60, sX10_leastFood_61, sX10_leastFood_64, sX10_leastFood_65, sX10_leastFood_68, sX10_leastFood_69, sX10_leastFood_72, sX10_leastFood_75, sX10_leastFood_78, sX10_leastFood_81, sX10_leastFood_82, sX10_leastFood_85, sX10_leastFood_86, sX10_leastFood_87, sX10_leastFood_90, sX10_leastFood_91, sX10_leastFood_94, sX10_leastFood_95, sX10_leastFood_96, sX10_leastFood_99, sX10_leastFood_102, sX10_leastFood_104, ↓hk1, ↓bndi_at ig, ↓if_pos, ↓if_neg]
    · simp (disch := omega) only [eX11_leastFood, sX11_leastFood_0, sX11_leastFood_1, sX11_leastFood_2, sX11_leastFood_5, sX11_leastFood_8, sX11_leastFood_9, sX11_leastFood_10, sX11_leastFood_11, sX11_leastFood_14, sX11_leastFood_17, sX11_leastFood_20, sX11_leastFood_21, sX11_leastFood_22, sX11_leastFood_24, sX11_leastFood_25, sX11_leastFood_26, sX11_leastFood_29, sX11_leastFood_30, sX11_leastFood_34, sX11_leastFood_36, sX11_leastFood_39, sX11_leastFood_40, sX11_leastFood_43, sX11_leastFood_44, sX11_leastFood_47, sX11_leastFood_49, sX11_leastFood_51, sX11_leastFood_52, sX11_leastFood_53, sX11_leastFood_54, sX11_leastFood_55, sX11_leastFood_56, sX11_leastFood_58, sX11_leastFood_59, sX11_leastFood_60, sX11_leastFood_61, sX11_leastFood_64, sX11_leastFood_65, sX11_leastFood_66, sX11_leastFood_69, sX11_leastFood_70, sX11_leastFood_73, sX11_leastFood_75, sX11_leastFood_76, sX11_leastFood_77, sX11_leastFood_80, sX11_leastFood_83, sX11_leastFood_86, sX11_leastFood_87, ↓hk103, ↓bndi_at mg', ↓if_pos, ↓if_neg]
end A3
